/-! THE INTERPRETER IS SOUND, one instruction -/
theorem nxt_inj {c1 c2 : Cf} (h : nxt c1 = some (.inl c2)) : c1 = c2 := by cases h; rfl
theorem andT {a b : Bool} (h : (a && b) = true) : a = true ∧ b = true := by simpa using h
theorem ldI_some {ls : Ls} {n : Nat} {f : Int32 → Ef} {r} (h : ldI ls n f = some r) : ∃ x, ls[n]? = some (some (.int x)) ∧ f x = some r := by
  unfold ldI at h; split at h
  · rename_i x hx; exact ⟨x, hx, h⟩
  · cases h
theorem ldR_some {ls : Ls} {n : Nat} {f : Nat → Ef} {r} (h : ldR ls n f = some r) : ∃ x, ls[n]? = some (some (.ref x)) ∧ f x = some r := by
  unfold ldR at h; split at h
  · rename_i x hx; exact ⟨x, hx, h⟩
  · cases h
theorem ldL_some {lq : Lq} {n : Nat} {f : Int64 → Ef} {r} (h : ldL lq n f = some r) : ∃ x, (n, x) ∈ lq ∧ f x = some r := by
  unfold ldL at h; split at h
  · rename_i q hq
    have h1 := List.mem_of_find?_eq_some hq
    have h2 := List.find?_some hq
    obtain ⟨q1, q2⟩ := q
    have h3 : q1 = n := by simpa using h2
    subst h3
    exact ⟨q2, h1, h⟩
  · cases h
theorem popI_some {st : List Value} {f : Int32 → List Value → Ef} {r} (h : popI st f = some r) : ∃ x t, st = .int x :: t ∧ f x t = some r := by
  unfold popI at h; split at h
  · exact ⟨_, _, rfl, h⟩
  · cases h
theorem popII_some {st : List Value} {f : Int32 → Int32 → List Value → Ef} {r} (h : popII st f = some r) : ∃ x y t, st = .int y :: .int x :: t ∧ f x y t = some r := by
  unfold popII at h; split at h
  · exact ⟨_, _, _, rfl, h⟩
  · cases h
theorem popL_some {st : List Value} {f : Int64 → List Value → Ef} {r} (h : popL st f = some r) : ∃ x t, st = .long x :: t ∧ f x t = some r := by
  unfold popL at h; split at h
  · exact ⟨_, _, rfl, h⟩
  · cases h
theorem popLL_some {st : List Value} {f : Int64 → Int64 → List Value → Ef} {r} (h : popLL st f = some r) : ∃ x y t, st = .long y :: .long x :: t ∧ f x y t = some r := by
  unfold popLL at h; split at h
  · exact ⟨_, _, _, rfl, h⟩
  · cases h
theorem popR_some {st : List Value} {f : Nat → List Value → Ef} {r} (h : popR st f = some r) : ∃ x t, st = .ref x :: t ∧ f x t = some r := by
  unfold popR at h; split at h
  · exact ⟨_, _, rfl, h⟩
  · cases h
theorem popV_some {st : List Value} {f : Value → List Value → Ef} {r} (h : popV st f = some r) : ∃ v t, st = v :: t ∧ v.category = 1 ∧ f v t = some r := by
  unfold popV at h; split at h
  · exact ⟨_, _, rfl, rfl, h⟩
  · exact ⟨_, _, rfl, rfl, h⟩
  · cases h
theorem popP_some {st : List Value} {f : Value → List Value → Ef} {r} (h : popP st f = some r) : ∃ v t, st = v :: t ∧ f v t = some r := by
  unfold popP at h; split at h
  · exact ⟨_, _, rfl, h⟩
  · exact ⟨_, _, rfl, h⟩
  · exact ⟨_, _, rfl, h⟩
  · cases h
theorem stor_some {ls : Ls} {lq : Lq} {n : Nat} {v : Value} {f : Ls → Lq → Ef} {r} (h : stor ls lq n v f = some r) : n < ls.length ∧ f (ls.set n (some v)) (lq.filter (fun q => !(q.1 == n) && !(q.1 + 1 == n))) = some r := by
  unfold stor at h; split at h
  · exact ⟨by assumption, h⟩
  · cases h
theorem storL_some {ls : Ls} {lq : Lq} {n : Nat} {x : Int64} {f : Ls → Lq → Ef} {r} (h : storL ls lq n x f = some r) : n + 1 < ls.length ∧ f ((ls.set n none).set (n + 1) none) ((n, x) :: lq.filter (fun q => !(q.1 == n) && (!(q.1 == n + 1) && !(q.1 + 1 == n)))) = some r := by
  unfold storL at h; split at h
  · exact ⟨by assumption, h⟩
  · cases h
theorem jmp_some {pc : Nat} {o : Option Int} {f : Nat → Ef} {r} (h : jmp pc o f = some r) : ∃ off : Int, o = some off ∧ (pc : Int) + off = ((((pc : Int) + off).toNat : Nat) : Int) ∧ f ((pc : Int) + off).toNat = some r := by
  unfold jmp at h; split at h
  · split at h
    · rename_i hn
      exact ⟨_, rfl, (Int.toNat_of_nonneg hn).symm, h⟩
    · cases h
  · cases h
theorem RS.i {b : Nat → Nat} {ad : List Nat} {x : Int32} {t ws : List Value} (h : RS b ad (.int x :: t) ws) : ∃ u, ws = .int x :: u ∧ RS b ad t u := by
  obtain ⟨w, u, h1, h2, h3⟩ := h
  rw [show w = .int x from h2] at h1
  exact ⟨u, h1, h3⟩
theorem RS.l {b : Nat → Nat} {ad : List Nat} {x : Int64} {t ws : List Value} (h : RS b ad (.long x :: t) ws) : ∃ u, ws = .long x :: u ∧ RS b ad t u := by
  obtain ⟨w, u, h1, h2, h3⟩ := h
  rw [show w = .long x from h2] at h1
  exact ⟨u, h1, h3⟩
theorem RS.r {b : Nat → Nat} {ad : List Nat} {x : Nat} {t ws : List Value} (h : RS b ad (.ref x :: t) ws) : ∃ a u, ws = .ref a :: u ∧ RV b ad (.ref x) (.ref a) ∧ RS b ad t u := by
  obtain ⟨w, u, h1, h2, h3⟩ := h
  obtain ⟨a, rfl⟩ := h2.ref
  exact ⟨a, u, h1, h2, h3⟩
theorem fld_ok {b : Nat → Nat} {ad : List Nat} {ty : FieldType} {v w : Value} (h : fldOk ty v = true) (hv : RV b ad v w) : narrow ty w = w ∧ fits ty w = true := by
  cases v with
  | int x =>
    rw [show w = .int x from hv]
    cases ty <;> first | exact ⟨rfl, rfl⟩ | (exfalso; simp [fldOk] at h; done) | skip
    have h : x = 0 ∨ x = 1 := by simpa [fldOk] using h
    rcases h with rfl | rfl <;> exact ⟨rfl, rfl⟩
  | long x =>
    rw [show w = .long x from hv]
    cases ty <;> first | exact ⟨rfl, rfl⟩ | (exfalso; simp [fldOk] at h; done)
  | ref i =>
    obtain ⟨a, rfl⟩ := hv.ref
    cases ty <;> first | exact ⟨rfl, rfl⟩ | (exfalso; simp [fldOk] at h; done)
  | _ => cases ty <;> exact absurd h (by simp [fldOk])
theorem vw_at : ∀ a, a < 9 → vwCl[a]? = some (RC a, TT a, NF a) := fun a h => match a, h with
  | 0, _ => rfl | 1, _ => rfl | 2, _ => rfl | 3, _ => rfl | 4, _ => rfl | 5, _ => rfl | 6, _ => rfl | 7, _ => rfl | 8, _ => rfl
  | n + 9, h => absurd h (by omega)
theorem tyf_ok : ∀ a, a < 9 → ∀ k, k < NF a → parseFieldDescriptor (TT a k).2.2.1 = some (TYF a k) := fun a h => match a, h with
  | 0, _ => tyX0_ok | 1, _ => tyX1_ok | 2, _ => tyX2_ok | 3, _ => tyX3_ok | 4, _ => tyX4_ok | 5, _ => tyX5_ok | 6, _ => tyX6_ok | 7, _ => tyX7_ok | 8, _ => tyX8_ok
  | n + 9, h => absurd h (by omega)
theorem nmf_ok : ∀ a, a < 9 → ∀ x, x < NF a → ∀ y, y < NF a → x ≠ y → (TT a x).2.1 ≠ (TT a y).2.1 := fun a h => match a, h with
  | 0, _ => nmX0 | 1, _ => nmX1 | 2, _ => nmX2 | 3, _ => nmX3 | 4, _ => nmX4 | 5, _ => nmX5 | 6, _ => nmX6 | 7, _ => nmX7 | 8, _ => nmX8
  | n + 9, h => absurd h (by omega)
theorem lay_in : ∀ a, a < 9 → ∀ w ∈ u_ws (RC a) (TT a) (NF a), w ∈ GW := by
  intro a ha w hw
  obtain ⟨j, hj, rfl⟩ := List.mem_map.mp hw
  have h2 := List.all_eq_true.mp (List.all_eq_true.mp ck_lay2 a (List.mem_range.mpr ha)) j hj
  obtain ⟨q, hq, h3⟩ := List.any_eq_true.mp h2
  have h4 := List.all_eq_true.mp ck_lay q hq
  have h5 : q.1 = a ∧ q.2.1 = j := by simpa using h3
  rw [h5.1, h5.2] at h4
  refine wat_in h4 ?_
  unfold u_lay
  split <;> rfl
/-- the String constant that is asked for a place, its bytes, the static that is read on the way -/
def SWp (b : Nat → Nat) (A : Nat → Prop) (U : State) (H : Heap) : Prop := vk_R RX2 39 ".#mbfwv" (b STRR) U ∧ vk_S 1 [7] [BYTES] (fun _ => b STRR) (fun _ => b BYTR) A U H ∧ va_Z "java/lang/String" "COMPACT_STRINGS" "Z" (.int 1) A U H
def CTX (p : Program) (R : Room) (s : State) (m : MethodId) (args : Array Value) (meth : Method) (c : Code) (k : Nat) (sc : Nat × (Nat → Int32)) (b : Nat → Nat) (H0 : Heap) (A : Nat → Prop) : Prop :=
  p.tables.exec = Jvm.exec ∧ c.code = BC k ∧ c.maxLocals = NL k ∧ s.vm.findClass (RC (CK k)) = some m.cls ∧ (∀ w ∈ GW, w.before args s = true) ∧ ((∀ w ∈ NWL, va_Nw w s) ∧ SWp b A s s.heap ∧ H0 = s.heap) ∧ (¬ k = LAWM → meth.name = (YN k).name) ∧ (∀ q, H0.size ≤ q → A q) ∧ (k = LAWM → va_X (b SCR) sc.1 sc.2 s H0 ∧ b SCR < H0.size ∧ ¬ A (b SCR)) ∧ RK k ≤ R.frames ∧ 30 * RK k ≤ R.locals ∧ MC k ≤ R.cells ∧ MS k ≤ R.slots
def OKC (p : Program) (l : Launch) (e : Env) (R : Room) (s : State) (m : MethodId) (args : Array Value) (below : List Frame) (meth : Method) (c : Code) (D : va_G) (k : Nat) (b : Nat → Nat) (ad0 : List Nat) (H0 : Heap) (A : Nat → Prop) (Q : State → Prop) (cf : Cf) : Prop := match cf with
  | (k', pc, ls, lq, st, h, cb, sb) => k' = k → ∀ (ad : List Nat) (tys : List (ClassId × FieldType)) (ws : va_W) (H : Heap) (locs : List Loc) (lsA : Array Slot) (stA : List Value) (cells slots : Nat), (∀ (i a : Nat), ad0[i]? = some a → ad[i]? = some a) → RLo b ad (NL k) ls lq lsA → RS b ad st stA → RH b ad tys h ws → va_K D vwCl tys s → va_P D vwCl ws H → va_D A ws → va_S A H0 H locs → cells + cb ≤ MC k → slots + sb ≤ MS k → W p l e R s m args below meth c H locs cells slots Q (F0 m pc lsA stA)

theorem call_nn (recv : Bool) (k pc : Nat) (ls : Ls) (lq : Lq) (st : List Value) (h : Hp) (cb sb b n : Nat) (c' : Cf) : ¬ call recv k pc ls lq st h cb sb b n = some (.inl c') := by
  intro E
  unfold call at E
  dsimp only at E
  cases recv <;> (simp only [Bool.false_eq_true, if_false, if_true] at E; split at E <;> cases E)
theorem RS_dflt {b : Nat → Nat} {ad : List Nat} (f : Nat → FieldType) : ∀ (l : List Nat), RS b ad (l.map (fun j => defaultValue (f j))) (l.map (fun j => defaultValue (f j)))
  | [] => rfl
  | x :: t => ⟨_, _, rfl, by cases h : f x <;> (show RV b ad (defaultValue (f x)) (defaultValue (f x)); rw [h]; exact (rfl : _ = _)), RS_dflt f t⟩
theorem spec5 {k b c idx : Nat} {z : Int} (h : ((5 == 5 && wat c (.methodLink (RC (CK k)) idx objectInit)) || (iok k b z && decide ((YN b).name = "<init>") && decide (RT b = none) && wat (PIn b) (.instanceMethod (YN b)) && ((5 == 3 && wat c (.methodLink (RC (CK k)) idx (YN b))) || (5 == 4 && decide (NWL[c]? = some (.methodLinkNest (RC (CK k)) idx (YN b) "MirrorClerks")))))) = true) : wat c (.methodLink (RC (CK k)) idx objectInit) = true := by
  simpa using h
theorem stat6 {k b c idx : Nat} {z : Int} (h : (6 == 99 || (6 == 6 && wat c (.methodLink (RC (CK k)) idx Lib.Math.max.name)) || (6 == 7 && wat c (.methodLink (RC (CK k)) idx Lib.Math.min.name)) || (iok k b z && wat (PSt b) (.static (YN b)) && ((6 == 1 && wat c (.methodLink (RC (CK k)) idx (YN b))) || (6 == 2 && decide (NWL[c]? = some (.methodLinkNest (RC (CK k)) idx (YN b) "MirrorClerks")))))) = true) : wat c (.methodLink (RC (CK k)) idx Lib.Math.max.name) = true := by
  simpa using h
theorem stat7 {k b c idx : Nat} {z : Int} (h : (7 == 99 || (7 == 6 && wat c (.methodLink (RC (CK k)) idx Lib.Math.max.name)) || (7 == 7 && wat c (.methodLink (RC (CK k)) idx Lib.Math.min.name)) || (iok k b z && wat (PSt b) (.static (YN b)) && ((7 == 1 && wat c (.methodLink (RC (CK k)) idx (YN b))) || (7 == 2 && decide (NWL[c]? = some (.methodLinkNest (RC (CK k)) idx (YN b) "MirrorClerks")))))) = true) : wat c (.methodLink (RC (CK k)) idx Lib.Math.min.name) = true := by
  simpa using h
theorem gf20 {k b c idx : Nat} (h : ((20 == 20 && ((b == 0 && wat c (.fieldLink (RC (CK k)) idx "java/lang/String" "coder" "B")) || (b == 1 && wat c (.fieldLink (RC (CK k)) idx "java/lang/String" "value" "[B")))) || (decide (b < NF 20) && decide (20 < 9) && wat c (.fieldLink (RC (CK k)) idx (TT 20 b).1 (TT 20 b).2.1 (TT 20 b).2.2.1))) = true) : (b = 0 ∧ wat c (.fieldLink (RC (CK k)) idx "java/lang/String" "coder" "B") = true) ∨ (b = 1 ∧ wat c (.fieldLink (RC (CK k)) idx "java/lang/String" "value" "[B") = true) := by
  simpa using h
theorem gfN {k a b c idx : Nat} (h : ((a == 20 && ((b == 0 && wat c (.fieldLink (RC (CK k)) idx "java/lang/String" "coder" "B")) || (b == 1 && wat c (.fieldLink (RC (CK k)) idx "java/lang/String" "value" "[B")))) || (decide (b < NF a) && decide (a < 9) && wat c (.fieldLink (RC (CK k)) idx (TT a b).1 (TT a b).2.1 (TT a b).2.2.1))) = true) (ha : ¬ a = 20) : a < 9 ∧ b < NF a ∧ wat c (.fieldLink (RC (CK k)) idx (TT a b).1 (TT a b).2.1 (TT a b).2.2.1) = true := by
  have h1 : (a == 20) = false := by simpa using ha
  rw [h1, Bool.false_and, Bool.false_or] at h
  obtain ⟨h, h3⟩ := andT h
  obtain ⟨h1, h2⟩ := andT h
  exact ⟨of_decide_eq_true h2, of_decide_eq_true h1, h3⟩
theorem rk_pos {k : Nat} (hk : chkM k = true) : 0 < RK k := of_decide_eq_true (andT hk).2
set_option maxRecDepth 100000 in
set_option maxHeartbeats 40000000 in
theorem step_ok {p : Program} {l : Launch} {e : Env} {R : Room} {s : State} {m : MethodId} {args : Array Value} {below : List Frame} {meth : Method} {c : Code} {D : va_G} {k : Nat} {sc : Nat × (Nat → Int32)} {b : Nat → Nat} {ad0 : List Nat} {H0 : Heap} {A : Nat → Prop} {Q : State → Prop} (C : CTX p R s m args meth c k sc b H0 A) (hRK : 0 < RK k)
    {pc : Nat} {ls : Ls} {lq : Lq} {st : List Value} {h : Hp} {cb sb : Nat} {c1 : Cf} (E : effN sc (k, pc, ls, lq, st, h, cb, sb) = some (.inl c1)) (K : OKC p l e R s m args below meth c D k b ad0 H0 A Q c1) : OKC p l e R s m args below meth c D k b ad0 H0 A Q (k, pc, ls, lq, st, h, cb, sb) := by
  intro _ ad tys ws H locs lsA stA cells slots hM hL hS hH hK hP hD hV hcb hsb
  obtain ⟨hx, hb, hml, hown, hts, ⟨hnw, hSW, hH0⟩, hname, hA, hX, hR1, hR2, hR3, hR4⟩ := C
  unfold effN at E
  dsimp only at E
  split at E
  · cases E
  rename_i pc0 i len a b2 c0 z hf
  obtain ⟨rfl, hC⟩ := fetch_chk hf
  cases i with
  | iconst n =>
    dsimp only at E
    obtain ⟨hd, hl⟩ := andT hC; have hd := of_decide_eq_true hd; obtain rfl := eq_of_beq hl
    obtain rfl := nxt_inj E
    exact lv_iconst hx hb hd rfl (K rfl ad tys ws H locs _ _ cells slots hM hL ⟨_, _, rfl, rfl, hS⟩ hH hK hP hD hV hcb hsb)
  | bipush n =>
    dsimp only at E
    obtain ⟨hd, hl⟩ := andT hC; have hd := of_decide_eq_true hd; obtain rfl := eq_of_beq hl
    obtain rfl := nxt_inj E
    exact lv_bipush hx hb hd rfl (K rfl ad tys ws H locs _ _ cells slots hM hL ⟨_, _, rfl, rfl, hS⟩ hH hK hP hD hV hcb hsb)
  | sipush n =>
    dsimp only at E
    obtain ⟨hd, hl⟩ := andT hC; have hd := of_decide_eq_true hd; obtain rfl := eq_of_beq hl
    obtain rfl := nxt_inj E
    exact lv_sipush hx hb hd rfl (K rfl ad tys ws H locs _ _ cells slots hM hL ⟨_, _, rfl, rfl, hS⟩ hH hK hP hD hV hcb hsb)
  | lconst n =>
    dsimp only at E
    obtain ⟨hd, hl⟩ := andT hC; have hd := of_decide_eq_true hd; obtain rfl := eq_of_beq hl
    obtain rfl := nxt_inj E
    exact lv_lconst hx hb hd rfl (K rfl ad tys ws H locs _ _ cells slots hM hL ⟨_, _, rfl, rfl, hS⟩ hH hK hP hD hV hcb hsb)
  | ldc ix =>
    dsimp only at E
    obtain ⟨hd, hC⟩ := andT hC; have hd := of_decide_eq_true hd; obtain ⟨hl, hC⟩ := andT hC; obtain rfl := eq_of_beq hl
    split at E
    · rename_i h7
      subst h7
      obtain rfl := nxt_inj E
      rcases Bool.or_eq_true_iff.mp hC with hC | hC
      · obtain ⟨hC, hc2⟩ := andT hC; obtain ⟨-, hix⟩ := andT hC; obtain rfl := eq_of_beq hix
        have hk2 := eq_of_beq hc2
        rw [hk2] at hown
        exact va_ldcS hx hb hown hSW.1 hd (K rfl ad tys ws H locs _ _ cells slots hM hL ⟨_, _, rfl, Or.inl ⟨by decide, rfl⟩, hS⟩ hH hK hP hD hV hcb hsb)
      · exact absurd (andT hC).1 (by decide)
    · rename_i h7
      obtain rfl := nxt_inj E
      rcases Bool.or_eq_true_iff.mp hC with hC | hC
      · exact absurd (eq_of_beq (andT (andT hC).1).1) h7
      · exact lv_ldc hx hb hown (hts _ (wat_in (andT hC).2 rfl)) hd (K rfl ad tys ws H locs _ _ cells slots hM hL ⟨_, _, rfl, rfl, hS⟩ hH hK hP hD hV hcb hsb)
  | getstatic ix =>
    dsimp only at E
    obtain ⟨hd, hC⟩ := andT hC; have hd := of_decide_eq_true hd; obtain ⟨hl, hC⟩ := andT hC; obtain rfl := eq_of_beq hl
    obtain rfl := nxt_inj E
    exact va_gets hx hb hSW.2.2 (by rw [← hH0]; exact hV) hown (hts _ (wat_in hC rfl)) (fun _ h => h) hd (K rfl ad tys ws H locs _ _ cells slots hM hL ⟨_, _, rfl, rfl, hS⟩ hH hK hP hD hV hcb hsb)
  | baload =>
    dsimp only at E
    obtain ⟨hd, hl⟩ := andT hC; have hd := of_decide_eq_true hd; obtain rfl := eq_of_beq hl
    obtain ⟨j, t0, rfl, E11⟩ := popI_some E; replace E := E11; try dsimp only at E
    obtain ⟨i, t, rfl, E12⟩ := popR_some E; replace E := E12; try dsimp only at E
    obtain ⟨u0, rfl, hS13⟩ := hS.i; replace hS := hS13
    obtain ⟨a1, u1, rfl, hr, hS14⟩ := hS.r; replace hS := hS14
    split at E
    · rename_i hj
      obtain ⟨rfl, hj⟩ := hj
      obtain rfl := nxt_inj E
      rcases hr with ⟨-, hr⟩ | ⟨hr, -⟩
      · cases hr; exact va_tb hx hb (hSW.2.1.1 0 (by decide)).2.2.2 (by rw [← hH0]; exact hV) hj rfl hd (K rfl ad tys ws H locs _ _ cells slots hM hL ⟨_, _, rfl, rfl, hS⟩ hH hK hP hD hV hcb hsb)
      · exact absurd (by decide) hr
    · cases E
  | i2b =>
    dsimp only at E
    obtain ⟨hd, hl⟩ := andT hC; have hd := of_decide_eq_true hd; obtain rfl := eq_of_beq hl
    obtain ⟨x, t, rfl, E15⟩ := popI_some E; replace E := E15; try dsimp only at E
    obtain rfl := nxt_inj E
    obtain ⟨u1, rfl, hS16⟩ := hS.i; replace hS := hS16
    exact lv_i2b hx hb hd rfl (K rfl ad tys ws H locs _ _ cells slots hM hL ⟨_, _, rfl, rfl, hS⟩ hH hK hP hD hV hcb hsb)
  | i2c =>
    dsimp only at E
    obtain ⟨hd, hl⟩ := andT hC; have hd := of_decide_eq_true hd; obtain rfl := eq_of_beq hl
    obtain ⟨x, t, rfl, E17⟩ := popI_some E; replace E := E17; try dsimp only at E
    obtain rfl := nxt_inj E
    obtain ⟨u1, rfl, hS18⟩ := hS.i; replace hS := hS18
    exact lv_i2c hx hb hd rfl (K rfl ad tys ws H locs _ _ cells slots hM hL ⟨_, _, rfl, rfl, hS⟩ hH hK hP hD hV hcb hsb)
  | ldc_w ix =>
    dsimp only at E
    obtain ⟨hd, hC⟩ := andT hC; have hd := of_decide_eq_true hd; obtain ⟨hl, hC⟩ := andT hC; obtain rfl := eq_of_beq hl
    obtain rfl := nxt_inj E
    exact lv_ldcw hx hb hown (hts _ (wat_in hC rfl)) hd (K rfl ad tys ws H locs _ _ cells slots hM hL ⟨_, _, rfl, rfl, hS⟩ hH hK hP hD hV hcb hsb)
  | ldc2_w ix =>
    dsimp only at E
    obtain ⟨hd, hC⟩ := andT hC; have hd := of_decide_eq_true hd; obtain ⟨hl, hC⟩ := andT hC; obtain rfl := eq_of_beq hl
    obtain rfl := nxt_inj E
    exact lv_ldc2 hx hb hown (hts _ (wat_in hC rfl)) hd (K rfl ad tys ws H locs _ _ cells slots hM hL ⟨_, _, rfl, rfl, hS⟩ hH hK hP hD hV hcb hsb)
  | iload n =>
    dsimp only at E
    obtain ⟨hd, hl⟩ := andT hC; have hd := of_decide_eq_true hd; obtain rfl := eq_of_beq hl
    obtain ⟨x, hx1, E19⟩ := ldI_some E; replace E := E19; try dsimp only at E
    obtain rfl := nxt_inj E
    exact lv_iload hx hb hd (hL.i hx1) (K rfl ad tys ws H locs _ _ cells slots hM hL ⟨_, _, rfl, rfl, hS⟩ hH hK hP hD hV hcb hsb)
  | iload_n n =>
    dsimp only at E
    obtain ⟨hd, hl⟩ := andT hC; have hd := of_decide_eq_true hd; obtain rfl := eq_of_beq hl
    obtain ⟨x, hx1, E20⟩ := ldI_some E; replace E := E20; try dsimp only at E
    obtain rfl := nxt_inj E
    exact lv_iload_n hx hb hd rfl (hL.i hx1) (K rfl ad tys ws H locs _ _ cells slots hM hL ⟨_, _, rfl, rfl, hS⟩ hH hK hP hD hV hcb hsb)
  | aload n =>
    dsimp only at E
    obtain ⟨hd, hl⟩ := andT hC; have hd := of_decide_eq_true hd; obtain rfl := eq_of_beq hl
    obtain ⟨x, hx1, E21⟩ := ldR_some E; replace E := E21; try dsimp only at E
    obtain rfl := nxt_inj E
    obtain ⟨a1, hr, hl1⟩ := hL.r hx1
    exact lv_aload hx hb hd hl1 (K rfl ad tys ws H locs _ _ cells slots hM hL ⟨_, _, rfl, hr, hS⟩ hH hK hP hD hV hcb hsb)
  | aload_n n =>
    dsimp only at E
    obtain ⟨hd, hl⟩ := andT hC; have hd := of_decide_eq_true hd; obtain rfl := eq_of_beq hl
    obtain ⟨x, hx1, E22⟩ := ldR_some E; replace E := E22; try dsimp only at E
    obtain rfl := nxt_inj E
    obtain ⟨a1, hr, hl1⟩ := hL.r hx1
    exact lv_aload_n hx hb hd rfl hl1 (K rfl ad tys ws H locs _ _ cells slots hM hL ⟨_, _, rfl, hr, hS⟩ hH hK hP hD hV hcb hsb)
  | lload n =>
    dsimp only at E
    obtain ⟨hd, hl⟩ := andT hC; have hd := of_decide_eq_true hd; obtain rfl := eq_of_beq hl
    obtain ⟨x, hx1, E23⟩ := ldL_some E; replace E := E23; try dsimp only at E
    obtain rfl := nxt_inj E
    exact lv_lload hx hb hd (hL.2.2.2.2 _ hx1) (K rfl ad tys ws H locs _ _ cells slots hM hL ⟨_, _, rfl, rfl, hS⟩ hH hK hP hD hV hcb hsb)
  | lload_n n =>
    dsimp only at E
    obtain ⟨hd, hl⟩ := andT hC; have hd := of_decide_eq_true hd; obtain rfl := eq_of_beq hl
    obtain ⟨x, hx1, E24⟩ := ldL_some E; replace E := E24; try dsimp only at E
    obtain rfl := nxt_inj E
    exact lv_lload_n hx hb hd rfl (hL.2.2.2.2 _ hx1) (K rfl ad tys ws H locs _ _ cells slots hM hL ⟨_, _, rfl, rfl, hS⟩ hH hK hP hD hV hcb hsb)
  | istore n =>
    dsimp only at E
    obtain ⟨hd, hl⟩ := andT hC; have hd := of_decide_eq_true hd; obtain rfl := eq_of_beq hl
    obtain ⟨x, t, rfl, E25⟩ := popI_some E; replace E := E25; try dsimp only at E
    obtain ⟨hn, E26⟩ := stor_some E; replace E := E26; try dsimp only at E
    obtain rfl := nxt_inj E
    obtain ⟨u, rfl, hS27⟩ := hS.i; replace hS := hS27
    refine lv_istore hx hb hd hL.has (by rw [← hL.1]; exact hn) rfl (fun ls1 hl1 => ?_)
    exact K rfl ad tys ws H locs ls1 _ cells slots hM (hL.stor rfl rfl hn hl1) hS hH hK hP hD hV hcb hsb
  | istore_n n =>
    dsimp only at E
    obtain ⟨hd, hl⟩ := andT hC; have hd := of_decide_eq_true hd; obtain rfl := eq_of_beq hl
    obtain ⟨x, t, rfl, E28⟩ := popI_some E; replace E := E28; try dsimp only at E
    obtain ⟨hn, E29⟩ := stor_some E; replace E := E29; try dsimp only at E
    obtain rfl := nxt_inj E
    obtain ⟨u, rfl, hS30⟩ := hS.i; replace hS := hS30
    refine lv_istore_n hx hb hd rfl hL.has (by rw [← hL.1]; exact hn) rfl (fun ls1 hl1 => ?_)
    exact K rfl ad tys ws H locs ls1 _ cells slots hM (hL.stor rfl rfl hn hl1) hS hH hK hP hD hV hcb hsb
  | astore n =>
    dsimp only at E
    obtain ⟨hd, hl⟩ := andT hC; have hd := of_decide_eq_true hd; obtain rfl := eq_of_beq hl
    obtain ⟨x, t, rfl, E31⟩ := popR_some E; replace E := E31; try dsimp only at E
    obtain ⟨hn, E32⟩ := stor_some E; replace E := E32; try dsimp only at E
    obtain rfl := nxt_inj E
    obtain ⟨a1, u, rfl, hr, hS33⟩ := hS.r; replace hS := hS33
    refine lv_astore hx hb hd hL.has (by rw [← hL.1]; exact hn) rfl (fun ls1 hl1 => ?_)
    exact K rfl ad tys ws H locs ls1 _ cells slots hM (hL.stor hr rfl hn hl1) hS hH hK hP hD hV hcb hsb
  | astore_n n =>
    dsimp only at E
    obtain ⟨hd, hl⟩ := andT hC; have hd := of_decide_eq_true hd; obtain rfl := eq_of_beq hl
    obtain ⟨x, t, rfl, E34⟩ := popR_some E; replace E := E34; try dsimp only at E
    obtain ⟨hn, E35⟩ := stor_some E; replace E := E35; try dsimp only at E
    obtain rfl := nxt_inj E
    obtain ⟨a1, u, rfl, hr, hS36⟩ := hS.r; replace hS := hS36
    refine lv_astore_n hx hb hd rfl hL.has (by rw [← hL.1]; exact hn) rfl (fun ls1 hl1 => ?_)
    exact K rfl ad tys ws H locs ls1 _ cells slots hM (hL.stor hr rfl hn hl1) hS hH hK hP hD hV hcb hsb
  | lstore n =>
    dsimp only at E
    obtain ⟨hd, hl⟩ := andT hC; have hd := of_decide_eq_true hd; obtain rfl := eq_of_beq hl
    obtain ⟨x, t, rfl, E37⟩ := popL_some E; replace E := E37; try dsimp only at E
    obtain ⟨hn, E38⟩ := storL_some E; replace E := E38; try dsimp only at E
    obtain rfl := nxt_inj E
    obtain ⟨u, rfl, hS39⟩ := hS.l; replace hS := hS39
    refine lv_lstore hx hb hd hL.has (by rw [← hL.1]; exact hn) rfl (fun ls1 hl1 => ?_)
    exact K rfl ad tys ws H locs ls1 _ cells slots hM (hL.storL hn hl1) hS hH hK hP hD hV hcb hsb
  | lstore_n n =>
    dsimp only at E
    obtain ⟨hd, hl⟩ := andT hC; have hd := of_decide_eq_true hd; obtain rfl := eq_of_beq hl
    obtain ⟨x, t, rfl, E40⟩ := popL_some E; replace E := E40; try dsimp only at E
    obtain ⟨hn, E41⟩ := storL_some E; replace E := E41; try dsimp only at E
    obtain rfl := nxt_inj E
    obtain ⟨u, rfl, hS42⟩ := hS.l; replace hS := hS42
    refine lv_lstore_n hx hb hd rfl hL.has (by rw [← hL.1]; exact hn) rfl (fun ls1 hl1 => ?_)
    exact K rfl ad tys ws H locs ls1 _ cells slots hM (hL.storL hn hl1) hS hH hK hP hD hV hcb hsb
  | iinc n d =>
    dsimp only at E
    obtain ⟨hd, hl⟩ := andT hC; have hd := of_decide_eq_true hd; obtain rfl := eq_of_beq hl
    obtain ⟨x, hx1, E43⟩ := ldI_some E; replace E := E43; try dsimp only at E
    obtain ⟨hn, E44⟩ := stor_some E; replace E := E44; try dsimp only at E
    obtain rfl := nxt_inj E
    obtain ⟨j, hj⟩ := List.getElem?_of_mem (lvOf_mem.mpr (hL.i hx1))
    refine lv_iinc hx hb hd hL.has hj rfl (by rw [← hL.1]; exact hn) rfl (fun ls1 hl1 => ?_)
    exact K rfl ad tys ws H locs ls1 _ cells slots hM (hL.stor rfl rfl hn hl1) hS hH hK hP hD hV hcb hsb
  | iadd =>
    dsimp only at E
    obtain ⟨hd, hl⟩ := andT hC; have hd := of_decide_eq_true hd; obtain rfl := eq_of_beq hl
    obtain ⟨x, y, t, rfl, E45⟩ := popII_some E; replace E := E45; try dsimp only at E
    obtain rfl := nxt_inj E
    obtain ⟨u1, rfl, hS46⟩ := hS.i; replace hS := hS46
    obtain ⟨u2, rfl, hS47⟩ := hS.i; replace hS := hS47
    exact lv_iadd hx hb hd (K rfl ad tys ws H locs _ _ cells slots hM hL ⟨_, _, rfl, rfl, hS⟩ hH hK hP hD hV hcb hsb)
  | isub =>
    dsimp only at E
    obtain ⟨hd, hl⟩ := andT hC; have hd := of_decide_eq_true hd; obtain rfl := eq_of_beq hl
    obtain ⟨x, y, t, rfl, E48⟩ := popII_some E; replace E := E48; try dsimp only at E
    obtain rfl := nxt_inj E
    obtain ⟨u1, rfl, hS49⟩ := hS.i; replace hS := hS49
    obtain ⟨u2, rfl, hS50⟩ := hS.i; replace hS := hS50
    exact lv_isub hx hb hd (K rfl ad tys ws H locs _ _ cells slots hM hL ⟨_, _, rfl, rfl, hS⟩ hH hK hP hD hV hcb hsb)
  | imul =>
    dsimp only at E
    obtain ⟨hd, hl⟩ := andT hC; have hd := of_decide_eq_true hd; obtain rfl := eq_of_beq hl
    obtain ⟨x, y, t, rfl, E51⟩ := popII_some E; replace E := E51; try dsimp only at E
    obtain rfl := nxt_inj E
    obtain ⟨u1, rfl, hS52⟩ := hS.i; replace hS := hS52
    obtain ⟨u2, rfl, hS53⟩ := hS.i; replace hS := hS53
    exact lv_imul hx hb hd (K rfl ad tys ws H locs _ _ cells slots hM hL ⟨_, _, rfl, rfl, hS⟩ hH hK hP hD hV hcb hsb)
  | iand =>
    dsimp only at E
    obtain ⟨hd, hl⟩ := andT hC; have hd := of_decide_eq_true hd; obtain rfl := eq_of_beq hl
    obtain ⟨x, y, t, rfl, E54⟩ := popII_some E; replace E := E54; try dsimp only at E
    obtain rfl := nxt_inj E
    obtain ⟨u1, rfl, hS55⟩ := hS.i; replace hS := hS55
    obtain ⟨u2, rfl, hS56⟩ := hS.i; replace hS := hS56
    exact lv_iand hx hb hd (K rfl ad tys ws H locs _ _ cells slots hM hL ⟨_, _, rfl, rfl, hS⟩ hH hK hP hD hV hcb hsb)
  | ior =>
    dsimp only at E
    obtain ⟨hd, hl⟩ := andT hC; have hd := of_decide_eq_true hd; obtain rfl := eq_of_beq hl
    obtain ⟨x, y, t, rfl, E57⟩ := popII_some E; replace E := E57; try dsimp only at E
    obtain rfl := nxt_inj E
    obtain ⟨u1, rfl, hS58⟩ := hS.i; replace hS := hS58
    obtain ⟨u2, rfl, hS59⟩ := hS.i; replace hS := hS59
    exact lv_ior hx hb hd (K rfl ad tys ws H locs _ _ cells slots hM hL ⟨_, _, rfl, rfl, hS⟩ hH hK hP hD hV hcb hsb)
  | ixor =>
    dsimp only at E
    obtain ⟨hd, hl⟩ := andT hC; have hd := of_decide_eq_true hd; obtain rfl := eq_of_beq hl
    obtain ⟨x, y, t, rfl, E60⟩ := popII_some E; replace E := E60; try dsimp only at E
    obtain rfl := nxt_inj E
    obtain ⟨u1, rfl, hS61⟩ := hS.i; replace hS := hS61
    obtain ⟨u2, rfl, hS62⟩ := hS.i; replace hS := hS62
    exact lv_ixor hx hb hd (K rfl ad tys ws H locs _ _ cells slots hM hL ⟨_, _, rfl, rfl, hS⟩ hH hK hP hD hV hcb hsb)
  | ishl =>
    dsimp only at E
    obtain ⟨hd, hl⟩ := andT hC; have hd := of_decide_eq_true hd; obtain rfl := eq_of_beq hl
    obtain ⟨x, y, t, rfl, E63⟩ := popII_some E; replace E := E63; try dsimp only at E
    obtain rfl := nxt_inj E
    obtain ⟨u1, rfl, hS64⟩ := hS.i; replace hS := hS64
    obtain ⟨u2, rfl, hS65⟩ := hS.i; replace hS := hS65
    exact lv_ishl hx hb hd (K rfl ad tys ws H locs _ _ cells slots hM hL ⟨_, _, rfl, rfl, hS⟩ hH hK hP hD hV hcb hsb)
  | ishr =>
    dsimp only at E
    obtain ⟨hd, hl⟩ := andT hC; have hd := of_decide_eq_true hd; obtain rfl := eq_of_beq hl
    obtain ⟨x, y, t, rfl, E66⟩ := popII_some E; replace E := E66; try dsimp only at E
    obtain rfl := nxt_inj E
    obtain ⟨u1, rfl, hS67⟩ := hS.i; replace hS := hS67
    obtain ⟨u2, rfl, hS68⟩ := hS.i; replace hS := hS68
    exact lv_ishr hx hb hd (K rfl ad tys ws H locs _ _ cells slots hM hL ⟨_, _, rfl, rfl, hS⟩ hH hK hP hD hV hcb hsb)
  | iushr =>
    dsimp only at E
    obtain ⟨hd, hl⟩ := andT hC; have hd := of_decide_eq_true hd; obtain rfl := eq_of_beq hl
    obtain ⟨x, y, t, rfl, E69⟩ := popII_some E; replace E := E69; try dsimp only at E
    obtain rfl := nxt_inj E
    obtain ⟨u1, rfl, hS70⟩ := hS.i; replace hS := hS70
    obtain ⟨u2, rfl, hS71⟩ := hS.i; replace hS := hS71
    exact lv_iushr hx hb hd rfl (K rfl ad tys ws H locs _ _ cells slots hM hL ⟨_, _, rfl, rfl, hS⟩ hH hK hP hD hV hcb hsb)
  | idiv =>
    dsimp only at E
    obtain ⟨hd, hl⟩ := andT hC; have hd := of_decide_eq_true hd; obtain rfl := eq_of_beq hl
    obtain ⟨x, y, t, rfl, E72⟩ := popII_some E; replace E := E72; try dsimp only at E
    split at E
    · cases E
    rename_i hy
    obtain rfl := nxt_inj E
    obtain ⟨u1, rfl, hS73⟩ := hS.i; replace hS := hS73
    obtain ⟨u2, rfl, hS74⟩ := hS.i; replace hS := hS74
    exact lv_idiv hx hb hd hy (K rfl ad tys ws H locs _ _ cells slots hM hL ⟨_, _, rfl, rfl, hS⟩ hH hK hP hD hV hcb hsb)
  | irem =>
    dsimp only at E
    obtain ⟨hd, hl⟩ := andT hC; have hd := of_decide_eq_true hd; obtain rfl := eq_of_beq hl
    obtain ⟨x, y, t, rfl, E75⟩ := popII_some E; replace E := E75; try dsimp only at E
    split at E
    · cases E
    rename_i hy
    obtain rfl := nxt_inj E
    obtain ⟨u1, rfl, hS76⟩ := hS.i; replace hS := hS76
    obtain ⟨u2, rfl, hS77⟩ := hS.i; replace hS := hS77
    exact lv_irem hx hb hd hy (K rfl ad tys ws H locs _ _ cells slots hM hL ⟨_, _, rfl, rfl, hS⟩ hH hK hP hD hV hcb hsb)
  | i2l =>
    dsimp only at E
    obtain ⟨hd, hl⟩ := andT hC; have hd := of_decide_eq_true hd; obtain rfl := eq_of_beq hl
    obtain ⟨x, t, rfl, E78⟩ := popI_some E; replace E := E78; try dsimp only at E
    obtain rfl := nxt_inj E
    obtain ⟨u1, rfl, hS79⟩ := hS.i; replace hS := hS79
    exact lv_i2l hx hb hd rfl (K rfl ad tys ws H locs _ _ cells slots hM hL ⟨_, _, rfl, rfl, hS⟩ hH hK hP hD hV hcb hsb)
  | l2i =>
    dsimp only at E
    obtain ⟨hd, hl⟩ := andT hC; have hd := of_decide_eq_true hd; obtain rfl := eq_of_beq hl
    obtain ⟨x, t, rfl, E80⟩ := popL_some E; replace E := E80; try dsimp only at E
    obtain rfl := nxt_inj E
    obtain ⟨u1, rfl, hS81⟩ := hS.l; replace hS := hS81
    exact lv_l2i hx hb hd rfl (K rfl ad tys ws H locs _ _ cells slots hM hL ⟨_, _, rfl, rfl, hS⟩ hH hK hP hD hV hcb hsb)
  | ladd =>
    dsimp only at E
    obtain ⟨hd, hl⟩ := andT hC; have hd := of_decide_eq_true hd; obtain rfl := eq_of_beq hl
    obtain ⟨x, y, t, rfl, E82⟩ := popLL_some E; replace E := E82; try dsimp only at E
    obtain rfl := nxt_inj E
    obtain ⟨u1, rfl, hS83⟩ := hS.l; replace hS := hS83
    obtain ⟨u2, rfl, hS84⟩ := hS.l; replace hS := hS84
    exact lv_ladd hx hb hd (K rfl ad tys ws H locs _ _ cells slots hM hL ⟨_, _, rfl, rfl, hS⟩ hH hK hP hD hV hcb hsb)
  | lmul =>
    dsimp only at E
    obtain ⟨hd, hl⟩ := andT hC; have hd := of_decide_eq_true hd; obtain rfl := eq_of_beq hl
    obtain ⟨x, y, t, rfl, E85⟩ := popLL_some E; replace E := E85; try dsimp only at E
    obtain rfl := nxt_inj E
    obtain ⟨u1, rfl, hS86⟩ := hS.l; replace hS := hS86
    obtain ⟨u2, rfl, hS87⟩ := hS.l; replace hS := hS87
    exact lv_lmul hx hb hd (K rfl ad tys ws H locs _ _ cells slots hM hL ⟨_, _, rfl, rfl, hS⟩ hH hK hP hD hV hcb hsb)
  | land =>
    dsimp only at E
    obtain ⟨hd, hl⟩ := andT hC; have hd := of_decide_eq_true hd; obtain rfl := eq_of_beq hl
    obtain ⟨x, y, t, rfl, E88⟩ := popLL_some E; replace E := E88; try dsimp only at E
    obtain rfl := nxt_inj E
    obtain ⟨u1, rfl, hS89⟩ := hS.l; replace hS := hS89
    obtain ⟨u2, rfl, hS90⟩ := hS.l; replace hS := hS90
    exact lv_land hx hb hd (K rfl ad tys ws H locs _ _ cells slots hM hL ⟨_, _, rfl, rfl, hS⟩ hH hK hP hD hV hcb hsb)
  | lcmp =>
    dsimp only at E
    obtain ⟨hd, hl⟩ := andT hC; have hd := of_decide_eq_true hd; obtain rfl := eq_of_beq hl
    obtain ⟨x, y, t, rfl, E91⟩ := popLL_some E; replace E := E91; try dsimp only at E
    obtain rfl := nxt_inj E
    obtain ⟨u1, rfl, hS92⟩ := hS.l; replace hS := hS92
    obtain ⟨u2, rfl, hS93⟩ := hS.l; replace hS := hS93
    exact W.lcmp hx hb hd (K rfl ad tys ws H locs _ _ cells slots hM hL ⟨_, _, rfl, rfl, hS⟩ hH hK hP hD hV hcb hsb)
  | dup =>
    dsimp only at E
    obtain ⟨hd, hl⟩ := andT hC; have hd := of_decide_eq_true hd; obtain rfl := eq_of_beq hl
    obtain ⟨v, t, rfl, hv, E94⟩ := popV_some E; replace E := E94; try dsimp only at E
    obtain rfl := nxt_inj E
    obtain ⟨w, u, rfl, hr, hS95⟩ := hS; replace hS := hS95
    exact lv_dup hx hb hd (hr.cat.trans hv) (K rfl ad tys ws H locs _ _ cells slots hM hL ⟨_, _, rfl, hr, _, _, rfl, hr, hS⟩ hH hK hP hD hV hcb hsb)
  | dup2 =>
    dsimp only at E
    obtain ⟨hd, hl⟩ := andT hC; have hd := of_decide_eq_true hd; obtain rfl := eq_of_beq hl
    obtain ⟨v, t, rfl, hv, E96⟩ := popV_some E; replace E := E96; try dsimp only at E
    obtain ⟨v2, t2, rfl, hv2, E97⟩ := popV_some E; replace E := E97; try dsimp only at E
    obtain rfl := nxt_inj E
    obtain ⟨w, u, rfl, hr, w2, u2, rfl, hr2, hS98⟩ := hS; replace hS := hS98
    exact lv_dup2_11 hx hb hd (hr.cat.trans hv) (hr2.cat.trans hv2) (K rfl ad tys ws H locs _ _ cells slots hM hL ⟨_, _, rfl, hr, _, _, rfl, hr2, _, _, rfl, hr, _, _, rfl, hr2, hS⟩ hH hK hP hD hV hcb hsb)
  | ifCond cn off =>
    dsimp only at E
    obtain ⟨hd, hC⟩ := andT hC; have hd := of_decide_eq_true hd; obtain ⟨hl, hC⟩ := andT hC; obtain rfl := eq_of_beq hl; have ht := of_decide_eq_true hC
    obtain ⟨x, t, rfl, E99⟩ := popI_some E; replace E := E99; try dsimp only at E
    obtain ⟨u1, rfl, hS100⟩ := hS.i; replace hS := hS100
    cases cn with
    | eq =>
      refine lv_if_eq hx hb hd ht (fun hc => ?_) (fun hc => ?_)
      · simp only [isN, if_pos hc] at E; obtain rfl := nxt_inj E; exact K rfl ad tys ws H locs _ _ cells slots hM hL hS hH hK hP hD hV hcb hsb
      · simp only [isN, if_neg hc] at E; obtain rfl := nxt_inj E; exact K rfl ad tys ws H locs _ _ cells slots hM hL hS hH hK hP hD hV hcb hsb
    | ne =>
      refine lv_if_ne hx hb hd ht (fun hc => ?_) (fun hc => ?_)
      · simp only [isN, if_neg hc] at E; obtain rfl := nxt_inj E; exact K rfl ad tys ws H locs _ _ cells slots hM hL hS hH hK hP hD hV hcb hsb
      · simp only [isN, if_pos hc] at E; obtain rfl := nxt_inj E; exact K rfl ad tys ws H locs _ _ cells slots hM hL hS hH hK hP hD hV hcb hsb
    | lt =>
      refine lv_if_lt hx hb hd ht (fun hc => ?_) (fun hc => ?_)
      · simp only [isN, if_pos hc] at E; obtain rfl := nxt_inj E; exact K rfl ad tys ws H locs _ _ cells slots hM hL hS hH hK hP hD hV hcb hsb
      · simp only [isN, if_neg hc] at E; obtain rfl := nxt_inj E; exact K rfl ad tys ws H locs _ _ cells slots hM hL hS hH hK hP hD hV hcb hsb
    | ge =>
      refine lv_if_ge hx hb hd ht (fun hc => ?_) (fun hc => ?_)
      · simp only [isN, if_pos hc] at E; obtain rfl := nxt_inj E; exact K rfl ad tys ws H locs _ _ cells slots hM hL hS hH hK hP hD hV hcb hsb
      · simp only [isN, if_neg hc] at E; obtain rfl := nxt_inj E; exact K rfl ad tys ws H locs _ _ cells slots hM hL hS hH hK hP hD hV hcb hsb
    | gt =>
      refine lv_if_gt hx hb hd ht (fun hc => ?_) (fun hc => ?_)
      · simp only [isN, if_pos hc] at E; obtain rfl := nxt_inj E; exact K rfl ad tys ws H locs _ _ cells slots hM hL hS hH hK hP hD hV hcb hsb
      · simp only [isN, if_neg hc] at E; obtain rfl := nxt_inj E; exact K rfl ad tys ws H locs _ _ cells slots hM hL hS hH hK hP hD hV hcb hsb
    | le =>
      refine lv_if_le hx hb hd ht (fun hc => ?_) (fun hc => ?_)
      · simp only [isN, if_pos hc] at E; obtain rfl := nxt_inj E; exact K rfl ad tys ws H locs _ _ cells slots hM hL hS hH hK hP hD hV hcb hsb
      · simp only [isN, if_neg hc] at E; obtain rfl := nxt_inj E; exact K rfl ad tys ws H locs _ _ cells slots hM hL hS hH hK hP hD hV hcb hsb
  | if_icmp cn off =>
    dsimp only at E
    obtain ⟨hd, hC⟩ := andT hC; have hd := of_decide_eq_true hd; obtain ⟨hl, hC⟩ := andT hC; obtain rfl := eq_of_beq hl; have ht := of_decide_eq_true hC
    obtain ⟨x, y, t, rfl, E101⟩ := popII_some E; replace E := E101; try dsimp only at E
    obtain ⟨u1, rfl, hS102⟩ := hS.i; replace hS := hS102
    obtain ⟨u2, rfl, hS103⟩ := hS.i; replace hS := hS103
    cases cn with
    | eq =>
      refine lv_icmp_eq hx hb hd ht (fun hc => ?_) (fun hc => ?_)
      · simp only [isN, if_pos hc] at E; obtain rfl := nxt_inj E; exact K rfl ad tys ws H locs _ _ cells slots hM hL hS hH hK hP hD hV hcb hsb
      · simp only [isN, if_neg hc] at E; obtain rfl := nxt_inj E; exact K rfl ad tys ws H locs _ _ cells slots hM hL hS hH hK hP hD hV hcb hsb
    | ne =>
      refine lv_icmp_ne hx hb hd ht (fun hc => ?_) (fun hc => ?_)
      · simp only [isN, if_neg hc] at E; obtain rfl := nxt_inj E; exact K rfl ad tys ws H locs _ _ cells slots hM hL hS hH hK hP hD hV hcb hsb
      · simp only [isN, if_pos hc] at E; obtain rfl := nxt_inj E; exact K rfl ad tys ws H locs _ _ cells slots hM hL hS hH hK hP hD hV hcb hsb
    | lt =>
      refine lv_icmp_lt hx hb hd ht (fun hc => ?_) (fun hc => ?_)
      · simp only [isN, if_pos hc] at E; obtain rfl := nxt_inj E; exact K rfl ad tys ws H locs _ _ cells slots hM hL hS hH hK hP hD hV hcb hsb
      · simp only [isN, if_neg hc] at E; obtain rfl := nxt_inj E; exact K rfl ad tys ws H locs _ _ cells slots hM hL hS hH hK hP hD hV hcb hsb
    | ge =>
      refine lv_icmp_ge hx hb hd ht (fun hc => ?_) (fun hc => ?_)
      · simp only [isN, if_pos hc] at E; obtain rfl := nxt_inj E; exact K rfl ad tys ws H locs _ _ cells slots hM hL hS hH hK hP hD hV hcb hsb
      · simp only [isN, if_neg hc] at E; obtain rfl := nxt_inj E; exact K rfl ad tys ws H locs _ _ cells slots hM hL hS hH hK hP hD hV hcb hsb
    | gt =>
      refine lv_icmp_gt hx hb hd ht (fun hc => ?_) (fun hc => ?_)
      · simp only [isN, if_pos hc] at E; obtain rfl := nxt_inj E; exact K rfl ad tys ws H locs _ _ cells slots hM hL hS hH hK hP hD hV hcb hsb
      · simp only [isN, if_neg hc] at E; obtain rfl := nxt_inj E; exact K rfl ad tys ws H locs _ _ cells slots hM hL hS hH hK hP hD hV hcb hsb
    | le =>
      refine lv_icmp_le hx hb hd ht (fun hc => ?_) (fun hc => ?_)
      · simp only [isN, if_pos hc] at E; obtain rfl := nxt_inj E; exact K rfl ad tys ws H locs _ _ cells slots hM hL hS hH hK hP hD hV hcb hsb
      · simp only [isN, if_neg hc] at E; obtain rfl := nxt_inj E; exact K rfl ad tys ws H locs _ _ cells slots hM hL hS hH hK hP hD hV hcb hsb
  | goto off =>
    dsimp only at E
    obtain ⟨hd, hC⟩ := andT hC; have hd := of_decide_eq_true hd; obtain ⟨hl, hC⟩ := andT hC; obtain rfl := eq_of_beq hl; have ht := of_decide_eq_true hC
    obtain rfl := nxt_inj E
    exact lv_goto hx hb hd ht (K rfl ad tys ws H locs _ _ cells slots hM hL hS hH hK hP hD hV hcb hsb)
  | tableswitch d lo hi offs =>
    dsimp only at E
    obtain ⟨hd, hC⟩ := andT hC; have hd := of_decide_eq_true hd
    obtain ⟨x, t, rfl, E104⟩ := popI_some E; replace E := E104; try dsimp only at E
    obtain ⟨off, ho, ht, E105⟩ := jmp_some E; replace E := E105; try dsimp only at E
    obtain rfl := nxt_inj E
    obtain ⟨u1, rfl, hS106⟩ := hS.i; replace hS := hS106
    by_cases hc : x.toInt < lo ∨ hi < x.toInt
    · rw [if_pos hc] at ho; cases ho; exact lv_tableOut hx hb hd hc ht (K rfl ad tys ws H locs _ _ cells slots hM hL hS hH hK hP hD hV hcb hsb)
    · rw [if_neg hc] at ho; exact lv_tableIn hx hb hd (fun q => hc (Or.inl q)) (fun q => hc (Or.inr q)) ho ht (K rfl ad tys ws H locs _ _ cells slots hM hL hS hH hK hP hD hV hcb hsb)
  | lookupswitch d ps =>
    dsimp only at E
    obtain ⟨hd, hC⟩ := andT hC; have hd := of_decide_eq_true hd
    obtain ⟨x, t, rfl, E107⟩ := popI_some E; replace E := E107; try dsimp only at E
    obtain ⟨off, ho, ht, E108⟩ := jmp_some E; replace E := E108; try dsimp only at E
    obtain rfl := nxt_inj E
    obtain ⟨u1, rfl, hS109⟩ := hS.i; replace hS := hS109
    exact lv_lookup hx hb hd (of_decide_eq_true hC) (Option.some.inj ho) ht (K rfl ad tys ws H locs _ _ cells slots hM hL hS hH hK hP hD hV hcb hsb)
  | getfield ix =>
    dsimp only at E
    obtain ⟨hd, hC⟩ := andT hC; have hd := of_decide_eq_true hd
    obtain ⟨hl, hC⟩ := andT hC; obtain rfl := eq_of_beq hl
    obtain ⟨i, t, rfl, E110⟩ := popR_some E; replace E := E110; try dsimp only at E
    obtain ⟨a1, u1, rfl, hr, hS111⟩ := hS.r; replace hS := hS111
    split at E
    · rename_i h20
      subst h20
      split at E
      · rename_i hi
        subst hi
        obtain rfl := nxt_inj E
        rcases hr with ⟨-, hr⟩ | ⟨hr, -⟩
        · cases hr
          rcases gf20 hC with ⟨rfl, hw⟩ | ⟨rfl, hw⟩
          · exact vk_getf hx hb (hSW.2.1.1 0 (by decide)).2.1 (by rw [← hH0]; exact hV) hown (hts _ (wat_in hw rfl)) (fun _ h => h) hd (K rfl ad tys ws H locs _ _ cells slots hM hL ⟨_, _, rfl, rfl, hS⟩ hH hK hP hD hV hcb hsb)
          · exact vk_getf hx hb (hSW.2.1.1 0 (by decide)).2.2.1 (by rw [← hH0]; exact hV) hown (hts _ (wat_in hw rfl)) (fun _ h => h) hd (K rfl ad tys ws H locs _ _ cells slots hM hL ⟨_, _, rfl, Or.inl ⟨by decide, rfl⟩, hS⟩ hH hK hP hD hV hcb hsb)
        · exact absurd (by decide) hr
      · cases E
    rename_i h20
    obtain ⟨h9, hb2, hw⟩ := gfN hC h20
    split at E
    · rename_i ci fs hg1
      split at E
      · rename_i hci
        subst hci
        split at E
        · rename_i v hv
          obtain rfl := nxt_inj E
          obtain ⟨a2, x2, e1, had, hws, gs, rfl, hgs⟩ := hH.get hg1 hr
          cases e1
          obtain ⟨w1, hw1, hrw⟩ := hgs.get hv
          exact va_get (ci := ci) (C := RC ci) (T := TT ci) (N := NF ci) hx hb hts (lay_in ci h9) hown hK hP i hws (vw_at ci h9) b2 hb2 (hts _ (wat_in hw rfl)) (fun _ h => h) hw1 hd (K rfl ad tys ws H locs _ _ cells slots hM hL ⟨_, _, rfl, hrw, hS⟩ hH hK hP hD hV hcb hsb)
        · cases E
      · cases E
    · cases E
  | putfield ix =>
    dsimp only at E
    obtain ⟨hd, hC⟩ := andT hC; have hd := of_decide_eq_true hd
    obtain ⟨hC, hfin⟩ := andT hC; obtain ⟨hC, hw⟩ := andT hC; obtain ⟨hC, h9⟩ := andT hC; obtain ⟨hl, hb2⟩ := andT hC; obtain rfl := eq_of_beq hl; have h9 := of_decide_eq_true h9; have hb2 := of_decide_eq_true hb2
    obtain ⟨v, t0, rfl, E112⟩ := popP_some E; replace E := E112; try dsimp only at E
    obtain ⟨i, t, rfl, E113⟩ := popR_some E; replace E := E113; try dsimp only at E
    obtain ⟨w1, u0, rfl, hrw, hS114⟩ := hS; replace hS := hS114
    obtain ⟨a1, u1, rfl, hr, hS115⟩ := hS.r; replace hS := hS115
    split at E
    · rename_i ci fs hg1
      split at E
      · rename_i hci
        obtain ⟨hci, hbl, hfo⟩ := hci
        subst hci
        obtain rfl := nxt_inj E
        obtain ⟨a2, x2, e1, had, hws, gs, rfl, hgs⟩ := hH.get hg1 hr
        cases e1
        obtain ⟨hn1, hf1⟩ := fld_ok hfo hrw
        have hH2 := hH.set (i := i) (o := .inr (ci, fs.set b2 v)) (x := .inr (ci, gs.set b2 w1)) had ⟨_, rfl, hgs.set hrw b2⟩
        cases hF : (TT ci b2).2.2.2 with
        | false => exact va_put (ci := ci) (C := RC ci) (T := TT ci) (N := NF ci) hx hb hts (lay_in ci h9) (TYF ci) (tyf_ok ci h9) (nmf_ok ci h9) hown hK hP hD hV i hws (vw_at ci h9) b2 hb2 (hts _ (wat_in hw rfl)) (fun _ h => h) hF (tyf_ok ci h9 b2 hb2) hn1 hf1 (by rw [hgs.len]; exact hbl) hd (fun H1 locs1 hP hD hV => K rfl ad tys _ H1 locs1 _ _ cells slots hM hL hS hH2 hK hP hD hV hcb hsb)
        | true =>
          rw [hF] at hfin
          obtain ⟨hf2, hf3⟩ := andT (show (decide ((TT ci b2).1 = RC (CK k)) && decide ((YN k).name = "<init>")) = true from hfin)
          exact va_putF (ci := ci) (C := RC ci) (T := TT ci) (N := NF ci) hx hb hts (lay_in ci h9) (TYF ci) (tyf_ok ci h9) (nmf_ok ci h9) hown hK hP hD hV i hws (vw_at ci h9) b2 hb2 (hts _ (wat_in hw rfl)) (fun _ h => h) hF ((hname (fun q => by rw [q] at hf3; exact absurd hf3 (by decide))).trans (of_decide_eq_true hf3)) (of_decide_eq_true hf2) (tyf_ok ci h9 b2 hb2) hn1 hf1 (by rw [hgs.len]; exact hbl) hd (fun H1 locs1 hP hD hV => K rfl ad tys _ H1 locs1 _ _ cells slots hM hL hS hH2 hK hP hD hV hcb hsb)
      · cases E
    · cases E
  | iaload =>
    dsimp only at E
    obtain ⟨hd, hl⟩ := andT hC; have hd := of_decide_eq_true hd; obtain rfl := eq_of_beq hl
    obtain ⟨j, t0, rfl, E116⟩ := popI_some E; replace E := E116; try dsimp only at E
    obtain ⟨i, t, rfl, E117⟩ := popR_some E; replace E := E117; try dsimp only at E
    obtain ⟨u0, rfl, hS118⟩ := hS.i; replace hS := hS118
    obtain ⟨a1, u1, rfl, hr, hS119⟩ := hS.r; replace hS := hS119
    split at E
    · rename_i hscr
      split at E
      · rename_i hj
        obtain rfl := nxt_inj E
        obtain ⟨hX1, hX2, hX3⟩ := hX hj.1
        rcases hr with ⟨-, hr⟩ | ⟨hr, -⟩
        · rw [hscr] at hr; cases hr; exact va_sld hx hb hX1 hX2 hX3 hV hj.2 hd (K rfl ad tys ws H locs _ _ cells slots hM hL ⟨_, _, rfl, rfl, hS⟩ hH hK hP hD hV hcb hsb)
        · exact absurd (by rw [hscr]; exact Nat.le_refl _) hr
      · cases E
    · split at E
      · rename_i n f hg1
        split at E
        · rename_i hj
          obtain rfl := nxt_inj E
          obtain ⟨a2, x2, e1, had, hws, cA, rfl, hty⟩ := hH.get hg1 hr
          cases e1
          obtain ⟨t0, ht0⟩ := List.getElem?_of_mem hty
          exact va_iald hx hb hK hP i t0 hws ht0 hj hd (K rfl ad tys ws H locs _ _ cells slots hM hL ⟨_, _, rfl, rfl, hS⟩ hH hK hP hD hV hcb hsb)
        · cases E
      · cases E
  | iastore =>
    dsimp only at E
    obtain ⟨hd, hl⟩ := andT hC; have hd := of_decide_eq_true hd; obtain rfl := eq_of_beq hl
    obtain ⟨j, x, t0, rfl, E120⟩ := popII_some E; replace E := E120; try dsimp only at E
    obtain ⟨i, t, rfl, E121⟩ := popR_some E; replace E := E121; try dsimp only at E
    obtain ⟨u0, rfl, hS122⟩ := hS.i; replace hS := hS122
    obtain ⟨u2, rfl, hS123⟩ := hS.i; replace hS := hS123
    obtain ⟨a1, u1, rfl, hr, hS124⟩ := hS.r; replace hS := hS124
    split at E
    · rename_i n f hg1
      split at E
      · rename_i hj
        obtain rfl := nxt_inj E
        obtain ⟨a2, x2, e1, had, hws, cA, rfl, hty⟩ := hH.get hg1 hr
        cases e1
        obtain ⟨t0, ht0⟩ := List.getElem?_of_mem hty
        have hH2 := hH.set (i := i) (o := .inl (n, upd f j.toNatClampNeg x)) (x := .inl (cA, n, .inl (upd f j.toNatClampNeg x))) had ⟨_, rfl, hty⟩
        exact va_iast hx hb hK hP hD hV i t0 hws ht0 hj hd (fun H1 locs1 hP hD hV => K rfl ad tys _ H1 locs1 _ _ cells slots hM hL hS hH2 hK hP hD hV hcb hsb)
      · cases E
    · cases E
  | arraylength =>
    dsimp only at E
    obtain ⟨hd, hl⟩ := andT hC; have hd := of_decide_eq_true hd; obtain rfl := eq_of_beq hl
    obtain ⟨i, t, rfl, E125⟩ := popR_some E; replace E := E125; try dsimp only at E
    obtain ⟨a1, u1, rfl, hr, hS126⟩ := hS.r; replace hS := hS126
    split at E
    · rename_i hi
      subst hi
      obtain rfl := nxt_inj E
      rcases hr with ⟨-, hr⟩ | ⟨hr, -⟩
      · cases hr; exact va_tlen hx hb (hSW.2.1.1 0 (by decide)).2.2.2 (by rw [← hH0]; exact hV) rfl hd (K rfl ad tys ws H locs _ _ cells slots hM hL ⟨_, _, rfl, rfl, hS⟩ hH hK hP hD hV hcb hsb)
      · exact absurd (by decide) hr
    split at E
    · rename_i hscr
      split at E
      · rename_i hj
        obtain rfl := nxt_inj E
        obtain ⟨hX1, hX2, hX3⟩ := hX hj
        rcases hr with ⟨-, hr⟩ | ⟨hr, -⟩
        · rw [hscr] at hr; cases hr; exact va_slen hx hb hX1 hX2 hX3 hV hd (K rfl ad tys ws H locs _ _ cells slots hM hL ⟨_, _, rfl, rfl, hS⟩ hH hK hP hD hV hcb hsb)
        · exact absurd (by rw [hscr]; exact Nat.le_refl _) hr
      · cases E
    · split at E
      · rename_i n f hg1
        obtain rfl := nxt_inj E
        obtain ⟨a2, x2, e1, had, hws, cA, rfl, hty⟩ := hH.get hg1 hr
        cases e1
        obtain ⟨t0, ht0⟩ := List.getElem?_of_mem hty
        exact va_alen hx hb hK hP i t0 hws ht0 rfl hd (K rfl ad tys ws H locs _ _ cells slots hM hL ⟨_, _, rfl, rfl, hS⟩ hH hK hP hD hV hcb hsb)
      · cases E
  | new ix =>
    dsimp only at E
    obtain ⟨hd, hC⟩ := andT hC; have hd := of_decide_eq_true hd
    obtain ⟨hC, hw3⟩ := andT hC; obtain ⟨hC, hw2⟩ := andT hC; obtain ⟨hC, hw1⟩ := andT hC; obtain ⟨hl, h9⟩ := andT hC; obtain rfl := eq_of_beq hl; have h9 := of_decide_eq_true h9
    split at E
    · rename_i hbud
      obtain ⟨hb1, hb2, hb3⟩ := hbud
      obtain rfl := nxt_inj E
      refine va_new (ci := a) (C := RC a) (T := TT a) (N := NF a) (fs := (List.range (NF a)).map (fun j => defaultValue (TYF a j))) hx hb hts (lay_in a h9) (TYF a) (tyf_ok a h9) hown (hts _ (wat_in hw1 rfl)) (hts _ (wat_in hw2 rfl)) (hts _ (wat_in hw3 rfl)) hK hP hD hV hA (vw_at a h9) (fun j hj => ?_) (by omega) (by omega) hd (fun q H1 hP hD hV => ?_)
      · simp [vp_V, List.getD, hj]
      · refine K rfl (ad ++ [q]) tys _ H1 locs _ _ (cells + 1) (slots + NF a) (fun i a h => ad_app q i a (hM i a h)) (hL.mono (ad_app q)) ⟨_, _, rfl, RV.new hH.1.symm hb3, hS.mono (ad_app q)⟩ (hH.push (fun _ h => h) ⟨_, rfl, RS_dflt _ _⟩) hK hP hD hV (by omega) (by omega)
    · cases E
  | newarray at_ =>
    dsimp only at E
    obtain ⟨hd, hC⟩ := andT hC; have hd := of_decide_eq_true hd
    obtain ⟨hl, hC⟩ := andT hC; obtain rfl := eq_of_beq hl; obtain rfl := of_decide_eq_true hC
    obtain ⟨n, t, rfl, E127⟩ := popI_some E; replace E := E127; try dsimp only at E
    obtain ⟨u0, rfl, hS128⟩ := hS.i; replace hS := hS128
    split at E
    · rename_i hbud
      obtain ⟨hb0, hb4, hb1, hb2, hb3⟩ := hbud
      obtain rfl := nxt_inj E
      refine va_newa (atype := .int) (ty := .int) (a0 := (n.toNatClampNeg, .inl (fun _ => 0))) hx hb (hts _ (wat_in (andT ck_obj).2 rfl)) rfl hK hP hD hV hA (fun cA => rfl) hb0 rfl (by show n.toNatClampNeg * 4 ≤ 536870912; omega) (by omega) (by omega) hd (fun q cA H1 hK hP hD hV => ?_)
      exact K rfl (ad ++ [q]) _ _ H1 locs _ _ (cells + 1) (slots + n.toNatClampNeg) (fun i a h => ad_app q i a (hM i a h)) (hL.mono (ad_app q)) ⟨_, _, rfl, RV.new hH.1.symm hb3, hS.mono (ad_app q)⟩ (hH.push (fun _ h => List.mem_append_left _ h) ⟨cA, rfl, List.mem_append_right _ List.mem_cons_self⟩) hK hP hD hV (by omega) (by omega)
    · cases E
  | invokevirtual ix =>
    dsimp only at E
    exact absurd E (call_nn _ _ _ _ _ _ _ _ _ _ _ _)
  | invokestatic ix =>
    dsimp only at E
    obtain ⟨hd, hC⟩ := andT hC; have hd := of_decide_eq_true hd
    split at E
    · cases E
    split at E
    · rename_i h6
      subst h6
      obtain ⟨hl, hC⟩ := andT hC; obtain rfl := eq_of_beq hl
      have hw := stat7 hC
      obtain ⟨x, y, t, rfl, E129⟩ := popII_some E; replace E := E129; try dsimp only at E
      obtain ⟨u1, rfl, hS130⟩ := hS.i; replace hS := hS130
      obtain ⟨u2, rfl, hS131⟩ := hS.i; replace hS := hS131
      split at E
      · rename_i hcs
        obtain rfl := nxt_inj E
        have hcs2 := hS.cs
        exact va_mmin hx hb (by rw [hml]; exact hL.2.1.symm) hown (hts _ (wat_in hw rfl)) (hts _ (wat_in (andT (andT ck_min).1).1 rfl)) (hts _ (wat_in (andT (andT ck_min).1).2 rfl)) (hts _ (wat_in (andT ck_min).2 rfl)) (by omega) (by show csum _ + 13 ≤ _; omega) (by omega) (by omega) hd (K rfl ad tys ws H locs _ _ cells slots hM hL ⟨_, _, rfl, rfl, hS⟩ hH hK hP hD hV hcb hsb)
      · cases E
    split at E
    · rename_i h6
      subst h6
      obtain ⟨hl, hC⟩ := andT hC; obtain rfl := eq_of_beq hl
      have hw := stat6 hC
      obtain ⟨x, y, t, rfl, E132⟩ := popII_some E; replace E := E132; try dsimp only at E
      obtain ⟨u1, rfl, hS133⟩ := hS.i; replace hS := hS133
      obtain ⟨u2, rfl, hS134⟩ := hS.i; replace hS := hS134
      split at E
      · rename_i hcs
        obtain rfl := nxt_inj E
        have hcs2 := hS.cs
        exact va_mmax hx hb (by rw [hml]; exact hL.2.1.symm) hown (hts _ (wat_in hw rfl)) (hts _ (wat_in (andT (andT ck_max).1).1 rfl)) (hts _ (wat_in (andT (andT ck_max).1).2 rfl)) (hts _ (wat_in (andT ck_max).2 rfl)) (by omega) (by show csum _ + 13 ≤ _; omega) (by omega) (by omega) hd (K rfl ad tys ws H locs _ _ cells slots hM hL ⟨_, _, rfl, rfl, hS⟩ hH hK hP hD hV hcb hsb)
      · cases E
    · exact absurd E (call_nn _ _ _ _ _ _ _ _ _ _ _ _)
  | invokespecial ix =>
    dsimp only at E
    obtain ⟨hd, hC⟩ := andT hC; have hd := of_decide_eq_true hd
    split at E
    · rename_i h5
      subst h5
      obtain ⟨hl, hC⟩ := andT hC; obtain rfl := eq_of_beq hl
      have hw := spec5 hC
      obtain ⟨i, t, rfl, E135⟩ := popR_some E; replace E := E135; try dsimp only at E
      obtain ⟨a1, u1, rfl, hr, hS136⟩ := hS.r; replace hS := hS136
      split at E
      · rename_i hcs
        obtain rfl := nxt_inj E
        have hcs2 := hS.cs
        refine W.objInit hx hb hown (hts _ (wat_in hw rfl)) (hts _ (wat_in (andT (andT ck_obj).1).2 rfl)) (hts _ (wat_in (andT (andT ck_obj).1).1 rfl)) rfl (by rw [hml]; exact hL.2.1) rfl hd (by omega) (by show 2 * 0 + csum _ + 12 ≤ _; omega) ?_
        exact K rfl ad tys ws H locs _ _ cells slots hM hL hS hH hK hP hD hV hcb hsb
      · cases E
    · exact absurd E (call_nn _ _ _ _ _ _ _ _ _ _ _ _)
  | _ => cases E
