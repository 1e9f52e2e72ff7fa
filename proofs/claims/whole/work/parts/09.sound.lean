/-! THE INTERPRETER IS SOUND: a whole method -/
theorem eff_next {sc : Nat × (Nat → Int32)} {c : Cf} {x} (h : eff sc c = some (.inr x)) : effN sc c = some x := by
  unfold eff at h
  split at h
  · cases h
  · cases e : effN sc c with
    | none => rw [e] at h; cases h
    | some y => rw [e] at h; cases h; rfl
theorem eff_ret {sc : Nat × (Nat → Int32)} {c : Cf} {o : Ot} (h : eff sc c = some (.inl o)) : retE c = some o := by
  unfold eff at h
  split at h
  · rename_i o' e
    cases h
    exact e
  · cases e : effN sc c with
    | none => rw [e] at h; cases h
    | some y => rw [e] at h; cases h
theorem frame_ok {p : Program} {l : Launch} {e : Env} {R : Room} {s : State} {m : MethodId} {args : Array Value} {below : List Frame} {meth : Method} {c : Code} {D : va_G} {k : Nat} {sc : Nat × (Nat → Int32)} {b : Nat → Nat} {ad0 : List Nat} {H0 : Heap} {A : Nat → Prop} {Q : State → Prop} (C : CTX p R s m args meth c k sc b H0 A) (hRK : 0 < RK k) {o : Ot} (N : Nat)
    (hcon : ∀ n, n < N → ∀ (h : Hp) (j : Nat) (vs : List Value) (o' : Ot), run sc n (start h j vs) = some o' → j < 148 → CON l j vs h o')
    (hret : ∀ cf, retE cf = some o → OKC p l e R s m args below meth c D k b ad0 H0 A Q cf) : ∀ n, n ≤ N → ∀ cf, run sc n cf = some o → OKC p l e R s m args below meth c D k b ad0 H0 A Q cf
  | 0, _, cf, h => by cases h
  | n + 1, hn, cf, h => by
    unfold run at h
    cases he : eff sc cf with
    | none => rw [he] at h; cases h
    | some x =>
      rw [he] at h
      obtain ⟨k', pc, ls, lq, st, hp, cb, sb⟩ := cf
      by_cases hk : k' = k
      · subst hk
        match x, he, h with
        | .inl o', he, h =>
          cases h
          exact hret _ (eff_ret he)
        | .inr (.inl c'), he, h => exact step_ok C hRK (eff_next he) (frame_ok C hRK N hcon hret n (by omega) c' h)
        | .inr (.inr (a, r)), he, h =>
          dsimp only at h
          cases ha : run sc n a with
          | none => rw [ha] at h; cases h
          | some o' =>
            rw [ha] at h
            exact call_ok C (eff_next he) o' (fun h' j vs e1 hj => hcon n (by omega) h' j vs o' (by rw [← e1]; exact ha) hj) (frame_ok C hRK N hcon hret n (by omega) (resume r o') h)
      · intro q
        exact absurd q hk
theorem retOk_ty {t : Option FieldType} {x : Int32} (h : retOk t x = true) : (t = some .int) ∨ (∃ ty, t = some ty ∧ narrow ty (.int x) = .int x) := by
  unfold retOk at h
  split at h
  · exact Or.inl rfl
  · refine Or.inr ⟨_, rfl, ?_⟩
    have h : x = 0 ∨ x = 1 := by simpa using h
    rcases h with rfl | rfl <;> rfl
  · refine Or.inr ⟨_, rfl, ?_⟩
    have h : x = 0 := by simpa using h
    rcases h with rfl; rfl
  · cases h
theorem lg_len (vs : List Value) : (lg_sl vs).length = csum vs := by
  induction vs with
  | nil => rfl
  | cons v t ih =>
    have e : (lg_sl (v :: t)) = (if v.category = 2 then [Slot.val v, Slot.second] else [Slot.val v]) ++ lg_sl t := by simp [lg_sl]
    rw [e, List.length_append, ih]
    simp only [csum, List.map_cons, List.sum_cons]
    rcases lv_cat v with h | h <;> simp [h]
theorem mk_rel {b : Nat → Nat} {ad : List Nat} {lsA : Array Slot} : ∀ (vs as : List Value) (i : Nat), RS b ad vs as → (∀ q ∈ lv_args i as, lsA[q.1]? = some (.val q.2)) →
    (∀ (t : Nat) (v : Value), (mkLs vs)[t]? = some (some v) → v.category = 1 ∧ ∃ w : Value, RV b ad v w ∧ lsA[i + t]? = some (.val w)) ∧ ∀ q ∈ mkLq i vs, lsA[q.1]? = some (.val (.long q.2))
  | [], _, i, _, _ => ⟨fun t v h => by simp [mkLs] at h, fun q h => by simp [mkLq] at h⟩
  | v :: vs, _, i, ⟨w, u, h1, h2, h3⟩, hA => by
    subst h1
    have hw : lsA[i]? = some (.val w) := hA (i, w) List.mem_cons_self
    have hc : w.category = v.category := h2.cat
    have hrest : ∀ q ∈ lv_args (if v.category = 2 then i + 2 else i + 1) u, lsA[q.1]? = some (.val q.2) := fun q hq => hA q (List.mem_cons_of_mem _ (by rw [hc]; exact hq))
    obtain ⟨r1, r2⟩ := mk_rel vs u _ h3 hrest
    have e1 : mkLs (v :: vs) = (if v.category = 2 then [none, none] else [some v]) ++ mkLs vs := by simp [mkLs]
    refine ⟨fun t x hx => ?_, fun q hq => ?_⟩
    · rw [e1] at hx
      rcases lv_cat v with h | h
      · rw [if_neg (by omega)] at hx r1
        cases t with
        | zero =>
          simp at hx
          subst hx
          exact ⟨h, w, h2, hw⟩
        | succ t =>
          simp at hx
          obtain ⟨a1, a2, a3, a4⟩ := r1 t x hx
          exact ⟨a1, a2, a3, by rw [show i + (t + 1) = i + 1 + t by omega]; exact a4⟩
      · rw [if_pos h] at hx r1
        match t, hx with
        | 0, hx => simp at hx
        | 1, hx => simp at hx
        | t + 2, hx =>
          simp at hx
          obtain ⟨a1, a2, a3, a4⟩ := r1 t x hx
          exact ⟨a1, a2, a3, by rw [show i + (t + 2) = i + 2 + t by omega]; exact a4⟩
    · unfold mkLq at hq
      rcases List.mem_append.mp hq with hq | hq
      · cases v with
        | long x =>
          simp at hq
          subst hq
          rw [show w = .long x from h2] at hw
          exact hw
        | _ => simp at hq
      · exact r2 q hq
theorem mkLs_len (vs : List Value) : (mkLs vs).length = csum vs := by
  induction vs with
  | nil => rfl
  | cons v t ih =>
    have e1 : mkLs (v :: t) = (if v.category = 2 then [none, none] else [some v]) ++ mkLs t := by simp [mkLs]
    rw [e1, List.length_append, ih]
    simp only [csum, List.map_cons, List.sum_cons]
    rcases lv_cat v with h | h <;> simp [h]
theorem start_rel {b : Nat → Nat} {ad : List Nat} {nL : Nat} {vs as : List Value} (hS : RS b ad vs as) (hc : csum vs ≤ nL) : RLo b ad nL (padL (mkLs vs) nL) (mkLq 0 vs) ((lg_sl as ++ List.replicate (nL - (lg_sl as).length) Slot.unset).toArray) := by
  have he := lv_entry as (n := nL) (by rw [lg_len, hS.cs]; exact hc)
  obtain ⟨r1, r2⟩ := mk_rel vs as 0 hS he.2.2
  refine ⟨by unfold padL; rw [List.length_append, List.length_replicate, mkLs_len]; omega, he.1, he.2.1, fun i v hv => ?_, r2⟩
  unfold padL at hv
  rcases Nat.lt_or_ge i (mkLs vs).length with h | h
  · rw [List.getElem?_append_left h] at hv
    obtain ⟨a1, a2, a3, a4⟩ := r1 i v hv
    exact ⟨a1, a2, a3, by rw [← Nat.zero_add i]; exact a4⟩
  · rw [List.getElem?_append_right h, List.getElem?_replicate] at hv
    split at hv <;> cases hv
theorem ret_ok {p : Program} {l : Launch} {e : Env} {R : Room} {s : State} {m : MethodId} {args : Array Value} {below : List Frame} {meth : Method} {c : Code} {D : va_G} {k : Nat} {sc : Nat × (Nat → Int32)} {b : Nat → Nat} {ad0 : List Nat} {A : Nat → Prop} (C : CTX p R s m args meth c k sc b s.heap A) (hr : meth.sig.returnType = RT k) (hlocks : meth.locks = false) {o : Ot} {free : Addr → Prop} (hfree : ∀ q, A q → free q)
    (cf : Cf) (E : retE cf = some o) : OKC p l e R s m args below meth c D k b ad0 s.heap A (MQ below (QG b ad0 o D A) args s (MC k) (MS k) free) cf := by
  obtain ⟨k', pc, ls, lq, st, h, cb, sb⟩ := cf
  intro hkk ad tys ws H locs lsA stA cells slots hM hL hS hH hK hP hD hV hcb hsb
  subst hkk
  obtain ⟨hx, hb, -⟩ := C
  unfold retE at E
  dsimp only at E
  refine W.widen (k := MC k') (n := MS k') (by omega) (by omega) ?_
  have hf : ∀ q ∈ locs, free q.base := fun q hq => hfree _ (hV.2.2 q hq)
  split at E
  · cases E
  rename_i pc0 i len a2 b2 c0 z hfe
  obtain ⟨rfl, hC⟩ := fetch_chk hfe
  split at E
  · obtain ⟨hd, hl⟩ := andT hC; have hd := of_decide_eq_true hd; obtain rfl := eq_of_beq hl
    split at E
    · rename_i x
      split at E
      · rename_i hro
        cases E
        obtain ⟨u, rfl, hu⟩ := hS.i
        rw [show u = [] from hu]
        rcases retOk_ty hro with ht | ⟨_, ht, hn⟩
        · exact W.iret hx hb (hr.trans ht) (fun t ht hW => ⟨⟨some (.int x), ad, tys, ws, rfl, rfl, hM, hH, by rw [ht]; exact hP, va_K.moved hW.alike hK, hD⟩, hV.F ht⟩) hf hd hlocks
        · exact W.zret hx hb (hr.trans ht) hn (fun t ht hW => ⟨⟨some (.int x), ad, tys, ws, rfl, rfl, hM, hH, by rw [ht]; exact hP, va_K.moved hW.alike hK, hD⟩, hV.F ht⟩) hf hd hlocks
      · cases E
    · cases E
  · obtain ⟨hd, hl⟩ := andT hC; have hd := of_decide_eq_true hd; obtain rfl := eq_of_beq hl
    split at E
    · rename_i x
      split at E
      · rename_i hro
        cases E
        obtain ⟨u, rfl, hu⟩ := hS.l
        rw [show u = [] from hu]
        exact W.lret hx hb (hr.trans hro) (fun t ht hW => ⟨⟨some (.long x), ad, tys, ws, rfl, rfl, hM, hH, by rw [ht]; exact hP, va_K.moved hW.alike hK, hD⟩, hV.F ht⟩) hf hd hlocks
      · cases E
    · cases E
  · obtain ⟨hd, hl⟩ := andT hC; have hd := of_decide_eq_true hd; obtain rfl := eq_of_beq hl
    split at E
    · split at E
      · rename_i hro
        cases E
        rw [show stA = [] from hS]
        exact W.vret hx hb (hr.trans hro) (fun t ht hW => ⟨⟨none, ad, tys, ws, rfl, trivial, hM, hH, by rw [ht]; exact hP, va_K.moved hW.alike hK, hD⟩, hV.F ht⟩) hf hd hlocks
      · cases E
    · cases E
  · cases E
theorem con_ok (l : Launch) (sc : Nat × (Nat → Int32)) : ∀ (N n : Nat), n < N → ∀ (h : Hp) (j : Nat) (vs : List Value) (o : Ot), run sc n (start h j vs) = some o → j < 148 → CON l j vs h o
  | 0, n, hn, _, _, _, _, _, _ => absurd hn (by omega)
  | N + 1, n, hn, h, j, vs, o, hrun, hj => by
    have ih := con_ok l sc N
    intro hcs D bb ad tys ws sz as hRS hRH
    have hm := chkM_ok hj
    obtain ⟨hm, hrk⟩ := andT hm
    obtain ⟨hm, m7⟩ := andT hm
    obtain ⟨hm, m6⟩ := andT hm
    obtain ⟨hm, m5⟩ := andT hm
    obtain ⟨hm, m4⟩ := andT hm
    obtain ⟨hm, m3⟩ := andT hm
    obtain ⟨m1, m2⟩ := andT hm
    have m3 := of_decide_eq_true m3
    refine Met.ofW (cc := BC j) (maxL := NL j) (ret := RT j) m2 rfl ?_
    intro p e s m args below meth c s₁ B hml hv
    obtain ⟨rfl, hsz, hP, hK, ⟨hN, hSW⟩, hD0⟩ := hv
    have hts := atoms_spec (ws := .code (YN j) (BC j) (NL j) (RT j) :: GW) B.pre
    have hown : s.vm.findClass (YN j).cls = some m.cls := findClass_of_methodNamed B.named
    rw [m3] at hown
    subst hsz
    have hD := hD0.self (sz := s.heap.size)
    rw [lg_entry_eq]
    have hl := start_rel (b := bb) (nL := NL j) hRS hcs
    have hA : ∀ q : Nat, s.heap.size ≤ q → va_A ws s.heap.size q := fun q h => Or.inr h
    have hLAW : ¬ j = LAWM := by
      have e : LAWM = 148 := rfl
      omega
    have C : CTX p (RM j) s m as.toArray meth c j sc bb s.heap (va_A ws s.heap.size) :=
      ⟨B.exec, B.bytes, hml, hown, fun w h => hts w (List.mem_cons_of_mem _ h), ⟨hN, hSW, rfl⟩, fun _ => (name_of_methodNamed B.named B.method).1, hA, fun q => absurd q hLAW, Nat.le_refl _, Nat.le_refl _, Nat.le_refl _, Nat.le_refl _⟩
    exact frame_ok (Q := MQ below (QG bb ad o D (va_A ws s.heap.size)) as.toArray s (MC j) (MS j) (va_A ws s.heap.size)) (ad0 := ad) (D := D) C (of_decide_eq_true hrk) n (fun n' hn' => ih n' (by omega)) (ret_ok C B.returns B.notSynchronized (fun _ h => h)) n (Nat.le_refl _) _ hrun rfl ad tys ws s.heap [] _ [] 0 0 (fun _ _ h => h) hl rfl hRH hK hP hD va_S.rf (by omega) (by omega)
