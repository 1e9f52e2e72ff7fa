/-! THE INTERPRETER IS SOUND, one instruction -/
theorem nxt_inj {c1 c2 : Cf} (h : nxt c1 = some (.inl c2)) : c1 = c2 := by cases h; rfl
theorem andT {a b : Bool} (h : (a && b) = true) : a = true ∧ b = true := by simpa using h
theorem ldI_some {ls : Ls} {n : Nat} {f : Int32 → Ef} {r} (h : ldI ls n f = some r) : ∃ x, ls[n]? = some (some (.int x)) ∧ f x = some r := by
  unfold ldI at h; split at h
  · rename_i x hx; exact ⟨x, hx, h⟩
  · cases h
theorem ldR_some {ls : Ls} {n : Nat} {f : Nat → Ef} {r} (h : ldR ls n f = some r) : ∃ x, ls[n]? = some (some (.ref x)) ∧ f x = some r := by
  unfold ldR at h; split at h
  · rename_i x hx; exact ⟨x, hx, h⟩
  · cases h
theorem ldL_some {lq : Lq} {n : Nat} {f : Int64 → Ef} {r} (h : ldL lq n f = some r) : ∃ x, (n, x) ∈ lq ∧ f x = some r := by
  unfold ldL at h; split at h
  · rename_i q hq
    have h1 := List.mem_of_find?_eq_some hq
    have h2 := List.find?_some hq
    obtain ⟨q1, q2⟩ := q
    have h3 : q1 = n := by simpa using h2
    subst h3
    exact ⟨q2, h1, h⟩
  · cases h
theorem popI_some {st : List Value} {f : Int32 → List Value → Ef} {r} (h : popI st f = some r) : ∃ x t, st = .int x :: t ∧ f x t = some r := by
  unfold popI at h; split at h
  · exact ⟨_, _, rfl, h⟩
  · cases h
theorem popII_some {st : List Value} {f : Int32 → Int32 → List Value → Ef} {r} (h : popII st f = some r) : ∃ x y t, st = .int y :: .int x :: t ∧ f x y t = some r := by
  unfold popII at h; split at h
  · exact ⟨_, _, _, rfl, h⟩
  · cases h
theorem popL_some {st : List Value} {f : Int64 → List Value → Ef} {r} (h : popL st f = some r) : ∃ x t, st = .long x :: t ∧ f x t = some r := by
  unfold popL at h; split at h
  · exact ⟨_, _, rfl, h⟩
  · cases h
theorem popLL_some {st : List Value} {f : Int64 → Int64 → List Value → Ef} {r} (h : popLL st f = some r) : ∃ x y t, st = .long y :: .long x :: t ∧ f x y t = some r := by
  unfold popLL at h; split at h
  · exact ⟨_, _, _, rfl, h⟩
  · cases h
theorem popR_some {st : List Value} {f : Nat → List Value → Ef} {r} (h : popR st f = some r) : ∃ x t, st = .ref x :: t ∧ f x t = some r := by
  unfold popR at h; split at h
  · exact ⟨_, _, rfl, h⟩
  · cases h
theorem popV_some {st : List Value} {f : Value → List Value → Ef} {r} (h : popV st f = some r) : ∃ v t, st = v :: t ∧ v.category = 1 ∧ f v t = some r := by
  unfold popV at h; split at h
  · exact ⟨_, _, rfl, rfl, h⟩
  · exact ⟨_, _, rfl, rfl, h⟩
  · cases h
theorem stor_some {ls : Ls} {lq : Lq} {n : Nat} {v : Value} {f : Ls → Lq → Ef} {r} (h : stor ls lq n v f = some r) : n < ls.length ∧ f (ls.set n (some v)) (lq.filter (fun q => !(q.1 == n) && !(q.1 + 1 == n))) = some r := by
  unfold stor at h; split at h
  · exact ⟨by assumption, h⟩
  · cases h
theorem storL_some {ls : Ls} {lq : Lq} {n : Nat} {x : Int64} {f : Ls → Lq → Ef} {r} (h : storL ls lq n x f = some r) : n + 1 < ls.length ∧ f ((ls.set n none).set (n + 1) none) ((n, x) :: lq.filter (fun q => !(q.1 == n) && (!(q.1 == n + 1) && !(q.1 + 1 == n)))) = some r := by
  unfold storL at h; split at h
  · exact ⟨by assumption, h⟩
  · cases h
theorem jmp_some {pc : Nat} {o : Option Int} {f : Nat → Ef} {r} (h : jmp pc o f = some r) : ∃ off : Int, o = some off ∧ (pc : Int) + off = ((((pc : Int) + off).toNat : Nat) : Int) ∧ f ((pc : Int) + off).toNat = some r := by
  unfold jmp at h; split at h
  · split at h
    · rename_i hn
      exact ⟨_, rfl, (Int.toNat_of_nonneg hn).symm, h⟩
    · cases h
  · cases h
theorem RS.i {b : Nat} {ad : List Nat} {x : Int32} {t ws : List Value} (h : RS b ad (.int x :: t) ws) : ∃ u, ws = .int x :: u ∧ RS b ad t u := by
  obtain ⟨w, u, h1, h2, h3⟩ := h
  rw [show w = .int x from h2] at h1
  exact ⟨u, h1, h3⟩
theorem RS.l {b : Nat} {ad : List Nat} {x : Int64} {t ws : List Value} (h : RS b ad (.long x :: t) ws) : ∃ u, ws = .long x :: u ∧ RS b ad t u := by
  obtain ⟨w, u, h1, h2, h3⟩ := h
  rw [show w = .long x from h2] at h1
  exact ⟨u, h1, h3⟩
theorem RS.r {b : Nat} {ad : List Nat} {x : Nat} {t ws : List Value} (h : RS b ad (.ref x :: t) ws) : ∃ a u, ws = .ref a :: u ∧ RV b ad (.ref x) (.ref a) ∧ RS b ad t u := by
  obtain ⟨w, u, h1, h2, h3⟩ := h
  obtain ⟨a, rfl⟩ := h2.ref
  exact ⟨a, u, h1, h2, h3⟩
theorem fld_ok {b : Nat} {ad : List Nat} {ty : FieldType} {v w : Value} (h : fldOk ty v = true) (hv : RV b ad v w) : narrow ty w = w ∧ fits ty w = true := by
  cases v with
  | int x =>
    rw [show w = .int x from hv]
    cases ty <;> first | exact ⟨rfl, rfl⟩ | (exfalso; simp [fldOk] at h; done) | skip
    have h : x = 0 ∨ x = 1 := by simpa [fldOk] using h
    rcases h with rfl | rfl <;> exact ⟨rfl, rfl⟩
  | long x =>
    rw [show w = .long x from hv]
    cases ty <;> first | exact ⟨rfl, rfl⟩ | (exfalso; simp [fldOk] at h; done)
  | ref i =>
    obtain ⟨a, rfl⟩ := hv.ref
    cases ty <;> first | exact ⟨rfl, rfl⟩ | (exfalso; simp [fldOk] at h; done)
  | _ => cases ty <;> exact absurd h (by simp [fldOk])
theorem vw_at : ∀ a, a < 9 → vwCl[a]? = some (RC a, TT a, NF a) := fun a h => match a, h with
  | 0, _ => rfl | 1, _ => rfl | 2, _ => rfl | 3, _ => rfl | 4, _ => rfl | 5, _ => rfl | 6, _ => rfl | 7, _ => rfl | 8, _ => rfl
  | n + 9, h => absurd h (by omega)
theorem tyf_ok : ∀ a, a < 9 → ∀ k, k < NF a → parseFieldDescriptor (TT a k).2.2.1 = some (TYF a k) := fun a h => match a, h with
  | 0, _ => tyX0_ok | 1, _ => tyX1_ok | 2, _ => tyX2_ok | 3, _ => tyX3_ok | 4, _ => tyX4_ok | 5, _ => tyX5_ok | 6, _ => tyX6_ok | 7, _ => tyX7_ok | 8, _ => tyX8_ok
  | n + 9, h => absurd h (by omega)
theorem nmf_ok : ∀ a, a < 9 → ∀ x, x < NF a → ∀ y, y < NF a → x ≠ y → (TT a x).2.1 ≠ (TT a y).2.1 := fun a h => match a, h with
  | 0, _ => nmX0 | 1, _ => nmX1 | 2, _ => nmX2 | 3, _ => nmX3 | 4, _ => nmX4 | 5, _ => nmX5 | 6, _ => nmX6 | 7, _ => nmX7 | 8, _ => nmX8
  | n + 9, h => absurd h (by omega)
theorem lay_in : ∀ a, a < 9 → ∀ w ∈ u_ws (RC a) (TT a) (NF a), w ∈ GW := by
  intro a ha w hw
  obtain ⟨j, hj, rfl⟩ := List.mem_map.mp hw
  have h2 := List.all_eq_true.mp (List.all_eq_true.mp ck_lay2 a (List.mem_range.mpr ha)) j hj
  obtain ⟨q, hq, h3⟩ := List.any_eq_true.mp h2
  have h4 := List.all_eq_true.mp ck_lay q hq
  have h5 : q.1 = a ∧ q.2.1 = j := by simpa using h3
  rw [h5.1, h5.2] at h4
  refine wat_in h4 ?_
  unfold u_lay
  split <;> rfl
def CTX (p : Program) (R : Room) (s : State) (m : MethodId) (args : Array Value) (meth : Method) (c : Code) (k : Nat) (sc : Nat × (Nat → Int32)) (b : Nat) (H0 : Heap) (A : Nat → Prop) : Prop :=
  p.tables.exec = Jvm.exec ∧ c.code = BC k ∧ c.maxLocals = NL k ∧ s.vm.findClass (RC (CK k)) = some m.cls ∧ (∀ w ∈ GW, w.before args s = true) ∧ (∀ w ∈ NWL, va_Nw w s) ∧ (¬ k = LAWM → meth.name = (YN k).name) ∧ (∀ q, H0.size ≤ q → A q) ∧ (k = LAWM → va_X b sc.1 sc.2 s H0 ∧ b < H0.size ∧ ¬ A b) ∧ RK k ≤ R.frames ∧ 30 * RK k ≤ R.locals ∧ MC k ≤ R.cells ∧ MS k ≤ R.slots
def OKC (p : Program) (l : Launch) (e : Env) (R : Room) (s : State) (m : MethodId) (args : Array Value) (below : List Frame) (meth : Method) (c : Code) (D : va_G) (k : Nat) (b : Nat) (ad0 : List Nat) (H0 : Heap) (A : Nat → Prop) (Q : State → Prop) (cf : Cf) : Prop := match cf with
  | (k', pc, ls, lq, st, h, cb, sb) => k' = k → ∀ (ad : List Nat) (tys : List (ClassId × FieldType)) (ws : va_W) (H : Heap) (locs : List Loc) (lsA : Array Slot) (stA : List Value) (cells slots : Nat), (∀ (i a : Nat), ad0[i]? = some a → ad[i]? = some a) → RLo b ad (NL k) ls lq lsA → RS b ad st stA → RH b ad tys h ws → va_K D vwCl tys s → va_P D vwCl ws H → va_D A ws → va_S A H0 H locs → cells + cb ≤ MC k → slots + sb ≤ MS k → W p l e R s m args below meth c H locs cells slots Q (F0 m pc lsA stA)

theorem call_nn (recv : Bool) (k pc : Nat) (ls : Ls) (lq : Lq) (st : List Value) (h : Hp) (cb sb b n : Nat) (c' : Cf) : ¬ call recv k pc ls lq st h cb sb b n = some (.inl c') := by
  intro E
  unfold call at E
  dsimp only at E
  cases recv <;> (simp only [Bool.false_eq_true, if_false, if_true] at E; split at E <;> cases E)
theorem RS_dflt {b : Nat} {ad : List Nat} (f : Nat → FieldType) : ∀ (l : List Nat), RS b ad (l.map (fun j => defaultValue (f j))) (l.map (fun j => defaultValue (f j)))
  | [] => rfl
  | x :: t => ⟨_, _, rfl, by cases h : f x <;> (show RV b ad (defaultValue (f x)) (defaultValue (f x)); rw [h]; exact (rfl : _ = _)), RS_dflt f t⟩
theorem spec5 {k b c idx : Nat} {z : Int} (h : ((5 == 5 && wat c (.methodLink (RC (CK k)) idx objectInit)) || (iok k b z && decide ((YN b).name = "<init>") && decide (RT b = none) && wat (PIn b) (.instanceMethod (YN b)) && ((5 == 3 && wat c (.methodLink (RC (CK k)) idx (YN b))) || (5 == 4 && decide (NWL[c]? = some (.methodLinkNest (RC (CK k)) idx (YN b) "MirrorClerks")))))) = true) : wat c (.methodLink (RC (CK k)) idx objectInit) = true := by
  simpa using h
theorem stat6 {k b c idx : Nat} {z : Int} (h : ((6 == 6 && wat c (.methodLink (RC (CK k)) idx Lib.Math.max.name)) || (iok k b z && wat (PSt b) (.static (YN b)) && ((6 == 1 && wat c (.methodLink (RC (CK k)) idx (YN b))) || (6 == 2 && decide (NWL[c]? = some (.methodLinkNest (RC (CK k)) idx (YN b) "MirrorClerks")))))) = true) : wat c (.methodLink (RC (CK k)) idx Lib.Math.max.name) = true := by
  simpa using h
theorem rk_pos {k : Nat} (hk : chkM k = true) : 0 < RK k := of_decide_eq_true (andT hk).2
set_option maxRecDepth 100000 in
set_option maxHeartbeats 40000000 in
theorem step_ok {p : Program} {l : Launch} {e : Env} {R : Room} {s : State} {m : MethodId} {args : Array Value} {below : List Frame} {meth : Method} {c : Code} {D : va_G} {k : Nat} {sc : Nat × (Nat → Int32)} {b : Nat} {ad0 : List Nat} {H0 : Heap} {A : Nat → Prop} {Q : State → Prop} (C : CTX p R s m args meth c k sc b H0 A) (hRK : 0 < RK k)
    {pc : Nat} {ls : Ls} {lq : Lq} {st : List Value} {h : Hp} {cb sb : Nat} {c1 : Cf} (E : effN sc (k, pc, ls, lq, st, h, cb, sb) = some (.inl c1)) (K : OKC p l e R s m args below meth c D k b ad0 H0 A Q c1) : OKC p l e R s m args below meth c D k b ad0 H0 A Q (k, pc, ls, lq, st, h, cb, sb) := by
  intro _ ad tys ws H locs lsA stA cells slots hM hL hS hH hK hP hD hV hcb hsb
  obtain ⟨hx, hb, hml, hown, hts, hnw, hname, hA, hX, hR1, hR2, hR3, hR4⟩ := C
  unfold effN at E
  dsimp only at E
  split at E
  · cases E
  rename_i pc0 i len a b2 c0 z hf
  obtain ⟨rfl, hC⟩ := fetch_chk hf
  cases i with
  | iconst n =>
    dsimp only at E
    obtain ⟨hd, hl⟩ := andT hC; have hd := of_decide_eq_true hd; obtain rfl := eq_of_beq hl
    obtain rfl := nxt_inj E
    exact lv_iconst hx hb hd rfl (K rfl ad tys ws H locs _ _ cells slots hM hL ⟨_, _, rfl, rfl, hS⟩ hH hK hP hD hV hcb hsb)
  | bipush n =>
    dsimp only at E
    obtain ⟨hd, hl⟩ := andT hC; have hd := of_decide_eq_true hd; obtain rfl := eq_of_beq hl
    obtain rfl := nxt_inj E
    exact lv_bipush hx hb hd rfl (K rfl ad tys ws H locs _ _ cells slots hM hL ⟨_, _, rfl, rfl, hS⟩ hH hK hP hD hV hcb hsb)
  | sipush n =>
    dsimp only at E
    obtain ⟨hd, hl⟩ := andT hC; have hd := of_decide_eq_true hd; obtain rfl := eq_of_beq hl
    obtain rfl := nxt_inj E
    exact lv_sipush hx hb hd rfl (K rfl ad tys ws H locs _ _ cells slots hM hL ⟨_, _, rfl, rfl, hS⟩ hH hK hP hD hV hcb hsb)
  | lconst n =>
    dsimp only at E
    obtain ⟨hd, hl⟩ := andT hC; have hd := of_decide_eq_true hd; obtain rfl := eq_of_beq hl
    obtain rfl := nxt_inj E
    exact lv_lconst hx hb hd rfl (K rfl ad tys ws H locs _ _ cells slots hM hL ⟨_, _, rfl, rfl, hS⟩ hH hK hP hD hV hcb hsb)
  | ldc ix =>
    dsimp only at E
    obtain ⟨hd, hC⟩ := andT hC; have hd := of_decide_eq_true hd; obtain ⟨hl, hC⟩ := andT hC; obtain rfl := eq_of_beq hl
    obtain rfl := nxt_inj E
    exact lv_ldc hx hb hown (hts _ (wat_in hC rfl)) hd (K rfl ad tys ws H locs _ _ cells slots hM hL ⟨_, _, rfl, rfl, hS⟩ hH hK hP hD hV hcb hsb)
  | ldc_w ix =>
    dsimp only at E
    obtain ⟨hd, hC⟩ := andT hC; have hd := of_decide_eq_true hd; obtain ⟨hl, hC⟩ := andT hC; obtain rfl := eq_of_beq hl
    obtain rfl := nxt_inj E
    exact lv_ldcw hx hb hown (hts _ (wat_in hC rfl)) hd (K rfl ad tys ws H locs _ _ cells slots hM hL ⟨_, _, rfl, rfl, hS⟩ hH hK hP hD hV hcb hsb)
  | ldc2_w ix =>
    dsimp only at E
    obtain ⟨hd, hC⟩ := andT hC; have hd := of_decide_eq_true hd; obtain ⟨hl, hC⟩ := andT hC; obtain rfl := eq_of_beq hl
    obtain rfl := nxt_inj E
    exact lv_ldc2 hx hb hown (hts _ (wat_in hC rfl)) hd (K rfl ad tys ws H locs _ _ cells slots hM hL ⟨_, _, rfl, rfl, hS⟩ hH hK hP hD hV hcb hsb)
  | iload n =>
    dsimp only at E
    obtain ⟨hd, hl⟩ := andT hC; have hd := of_decide_eq_true hd; obtain rfl := eq_of_beq hl
    obtain ⟨x, hx1, E11⟩ := ldI_some E; replace E := E11; try dsimp only at E
    obtain rfl := nxt_inj E
    exact lv_iload hx hb hd (hL.i hx1) (K rfl ad tys ws H locs _ _ cells slots hM hL ⟨_, _, rfl, rfl, hS⟩ hH hK hP hD hV hcb hsb)
  | iload_n n =>
    dsimp only at E
    obtain ⟨hd, hl⟩ := andT hC; have hd := of_decide_eq_true hd; obtain rfl := eq_of_beq hl
    obtain ⟨x, hx1, E12⟩ := ldI_some E; replace E := E12; try dsimp only at E
    obtain rfl := nxt_inj E
    exact lv_iload_n hx hb hd rfl (hL.i hx1) (K rfl ad tys ws H locs _ _ cells slots hM hL ⟨_, _, rfl, rfl, hS⟩ hH hK hP hD hV hcb hsb)
  | aload n =>
    dsimp only at E
    obtain ⟨hd, hl⟩ := andT hC; have hd := of_decide_eq_true hd; obtain rfl := eq_of_beq hl
    obtain ⟨x, hx1, E13⟩ := ldR_some E; replace E := E13; try dsimp only at E
    obtain rfl := nxt_inj E
    obtain ⟨a1, hr, hl1⟩ := hL.r hx1
    exact lv_aload hx hb hd hl1 (K rfl ad tys ws H locs _ _ cells slots hM hL ⟨_, _, rfl, hr, hS⟩ hH hK hP hD hV hcb hsb)
  | aload_n n =>
    dsimp only at E
    obtain ⟨hd, hl⟩ := andT hC; have hd := of_decide_eq_true hd; obtain rfl := eq_of_beq hl
    obtain ⟨x, hx1, E14⟩ := ldR_some E; replace E := E14; try dsimp only at E
    obtain rfl := nxt_inj E
    obtain ⟨a1, hr, hl1⟩ := hL.r hx1
    exact lv_aload_n hx hb hd rfl hl1 (K rfl ad tys ws H locs _ _ cells slots hM hL ⟨_, _, rfl, hr, hS⟩ hH hK hP hD hV hcb hsb)
  | lload n =>
    dsimp only at E
    obtain ⟨hd, hl⟩ := andT hC; have hd := of_decide_eq_true hd; obtain rfl := eq_of_beq hl
    obtain ⟨x, hx1, E15⟩ := ldL_some E; replace E := E15; try dsimp only at E
    obtain rfl := nxt_inj E
    exact lv_lload hx hb hd (hL.2.2.2.2 _ hx1) (K rfl ad tys ws H locs _ _ cells slots hM hL ⟨_, _, rfl, rfl, hS⟩ hH hK hP hD hV hcb hsb)
  | lload_n n =>
    dsimp only at E
    obtain ⟨hd, hl⟩ := andT hC; have hd := of_decide_eq_true hd; obtain rfl := eq_of_beq hl
    obtain ⟨x, hx1, E16⟩ := ldL_some E; replace E := E16; try dsimp only at E
    obtain rfl := nxt_inj E
    exact lv_lload_n hx hb hd rfl (hL.2.2.2.2 _ hx1) (K rfl ad tys ws H locs _ _ cells slots hM hL ⟨_, _, rfl, rfl, hS⟩ hH hK hP hD hV hcb hsb)
  | istore n =>
    dsimp only at E
    obtain ⟨hd, hl⟩ := andT hC; have hd := of_decide_eq_true hd; obtain rfl := eq_of_beq hl
    obtain ⟨x, t, rfl, E17⟩ := popI_some E; replace E := E17; try dsimp only at E
    obtain ⟨hn, E18⟩ := stor_some E; replace E := E18; try dsimp only at E
    obtain rfl := nxt_inj E
    obtain ⟨u, rfl, hS19⟩ := hS.i; replace hS := hS19
    refine lv_istore hx hb hd hL.has (by rw [← hL.1]; exact hn) rfl (fun ls1 hl1 => ?_)
    exact K rfl ad tys ws H locs ls1 _ cells slots hM (hL.stor rfl rfl hn hl1) hS hH hK hP hD hV hcb hsb
  | istore_n n =>
    dsimp only at E
    obtain ⟨hd, hl⟩ := andT hC; have hd := of_decide_eq_true hd; obtain rfl := eq_of_beq hl
    obtain ⟨x, t, rfl, E20⟩ := popI_some E; replace E := E20; try dsimp only at E
    obtain ⟨hn, E21⟩ := stor_some E; replace E := E21; try dsimp only at E
    obtain rfl := nxt_inj E
    obtain ⟨u, rfl, hS22⟩ := hS.i; replace hS := hS22
    refine lv_istore_n hx hb hd rfl hL.has (by rw [← hL.1]; exact hn) rfl (fun ls1 hl1 => ?_)
    exact K rfl ad tys ws H locs ls1 _ cells slots hM (hL.stor rfl rfl hn hl1) hS hH hK hP hD hV hcb hsb
  | astore n =>
    dsimp only at E
    obtain ⟨hd, hl⟩ := andT hC; have hd := of_decide_eq_true hd; obtain rfl := eq_of_beq hl
    obtain ⟨x, t, rfl, E23⟩ := popR_some E; replace E := E23; try dsimp only at E
    obtain ⟨hn, E24⟩ := stor_some E; replace E := E24; try dsimp only at E
    obtain rfl := nxt_inj E
    obtain ⟨a1, u, rfl, hr, hS25⟩ := hS.r; replace hS := hS25
    refine lv_astore hx hb hd hL.has (by rw [← hL.1]; exact hn) rfl (fun ls1 hl1 => ?_)
    exact K rfl ad tys ws H locs ls1 _ cells slots hM (hL.stor hr rfl hn hl1) hS hH hK hP hD hV hcb hsb
  | astore_n n =>
    dsimp only at E
    obtain ⟨hd, hl⟩ := andT hC; have hd := of_decide_eq_true hd; obtain rfl := eq_of_beq hl
    obtain ⟨x, t, rfl, E26⟩ := popR_some E; replace E := E26; try dsimp only at E
    obtain ⟨hn, E27⟩ := stor_some E; replace E := E27; try dsimp only at E
    obtain rfl := nxt_inj E
    obtain ⟨a1, u, rfl, hr, hS28⟩ := hS.r; replace hS := hS28
    refine lv_astore_n hx hb hd rfl hL.has (by rw [← hL.1]; exact hn) rfl (fun ls1 hl1 => ?_)
    exact K rfl ad tys ws H locs ls1 _ cells slots hM (hL.stor hr rfl hn hl1) hS hH hK hP hD hV hcb hsb
  | lstore n =>
    dsimp only at E
    obtain ⟨hd, hl⟩ := andT hC; have hd := of_decide_eq_true hd; obtain rfl := eq_of_beq hl
    obtain ⟨x, t, rfl, E29⟩ := popL_some E; replace E := E29; try dsimp only at E
    obtain ⟨hn, E30⟩ := storL_some E; replace E := E30; try dsimp only at E
    obtain rfl := nxt_inj E
    obtain ⟨u, rfl, hS31⟩ := hS.l; replace hS := hS31
    refine lv_lstore hx hb hd hL.has (by rw [← hL.1]; exact hn) rfl (fun ls1 hl1 => ?_)
    exact K rfl ad tys ws H locs ls1 _ cells slots hM (hL.storL hn hl1) hS hH hK hP hD hV hcb hsb
  | lstore_n n =>
    dsimp only at E
    obtain ⟨hd, hl⟩ := andT hC; have hd := of_decide_eq_true hd; obtain rfl := eq_of_beq hl
    obtain ⟨x, t, rfl, E32⟩ := popL_some E; replace E := E32; try dsimp only at E
    obtain ⟨hn, E33⟩ := storL_some E; replace E := E33; try dsimp only at E
    obtain rfl := nxt_inj E
    obtain ⟨u, rfl, hS34⟩ := hS.l; replace hS := hS34
    refine lv_lstore_n hx hb hd rfl hL.has (by rw [← hL.1]; exact hn) rfl (fun ls1 hl1 => ?_)
    exact K rfl ad tys ws H locs ls1 _ cells slots hM (hL.storL hn hl1) hS hH hK hP hD hV hcb hsb
  | iinc n d =>
    dsimp only at E
    obtain ⟨hd, hl⟩ := andT hC; have hd := of_decide_eq_true hd; obtain rfl := eq_of_beq hl
    obtain ⟨x, hx1, E35⟩ := ldI_some E; replace E := E35; try dsimp only at E
    obtain ⟨hn, E36⟩ := stor_some E; replace E := E36; try dsimp only at E
    obtain rfl := nxt_inj E
    obtain ⟨j, hj⟩ := List.getElem?_of_mem (lvOf_mem.mpr (hL.i hx1))
    refine lv_iinc hx hb hd hL.has hj rfl (by rw [← hL.1]; exact hn) rfl (fun ls1 hl1 => ?_)
    exact K rfl ad tys ws H locs ls1 _ cells slots hM (hL.stor rfl rfl hn hl1) hS hH hK hP hD hV hcb hsb
  | iadd =>
    dsimp only at E
    obtain ⟨hd, hl⟩ := andT hC; have hd := of_decide_eq_true hd; obtain rfl := eq_of_beq hl
    obtain ⟨x, y, t, rfl, E37⟩ := popII_some E; replace E := E37; try dsimp only at E
    obtain rfl := nxt_inj E
    obtain ⟨u1, rfl, hS38⟩ := hS.i; replace hS := hS38
    obtain ⟨u2, rfl, hS39⟩ := hS.i; replace hS := hS39
    exact lv_iadd hx hb hd (K rfl ad tys ws H locs _ _ cells slots hM hL ⟨_, _, rfl, rfl, hS⟩ hH hK hP hD hV hcb hsb)
  | isub =>
    dsimp only at E
    obtain ⟨hd, hl⟩ := andT hC; have hd := of_decide_eq_true hd; obtain rfl := eq_of_beq hl
    obtain ⟨x, y, t, rfl, E40⟩ := popII_some E; replace E := E40; try dsimp only at E
    obtain rfl := nxt_inj E
    obtain ⟨u1, rfl, hS41⟩ := hS.i; replace hS := hS41
    obtain ⟨u2, rfl, hS42⟩ := hS.i; replace hS := hS42
    exact lv_isub hx hb hd (K rfl ad tys ws H locs _ _ cells slots hM hL ⟨_, _, rfl, rfl, hS⟩ hH hK hP hD hV hcb hsb)
  | imul =>
    dsimp only at E
    obtain ⟨hd, hl⟩ := andT hC; have hd := of_decide_eq_true hd; obtain rfl := eq_of_beq hl
    obtain ⟨x, y, t, rfl, E43⟩ := popII_some E; replace E := E43; try dsimp only at E
    obtain rfl := nxt_inj E
    obtain ⟨u1, rfl, hS44⟩ := hS.i; replace hS := hS44
    obtain ⟨u2, rfl, hS45⟩ := hS.i; replace hS := hS45
    exact lv_imul hx hb hd (K rfl ad tys ws H locs _ _ cells slots hM hL ⟨_, _, rfl, rfl, hS⟩ hH hK hP hD hV hcb hsb)
  | iand =>
    dsimp only at E
    obtain ⟨hd, hl⟩ := andT hC; have hd := of_decide_eq_true hd; obtain rfl := eq_of_beq hl
    obtain ⟨x, y, t, rfl, E46⟩ := popII_some E; replace E := E46; try dsimp only at E
    obtain rfl := nxt_inj E
    obtain ⟨u1, rfl, hS47⟩ := hS.i; replace hS := hS47
    obtain ⟨u2, rfl, hS48⟩ := hS.i; replace hS := hS48
    exact lv_iand hx hb hd (K rfl ad tys ws H locs _ _ cells slots hM hL ⟨_, _, rfl, rfl, hS⟩ hH hK hP hD hV hcb hsb)
  | ior =>
    dsimp only at E
    obtain ⟨hd, hl⟩ := andT hC; have hd := of_decide_eq_true hd; obtain rfl := eq_of_beq hl
    obtain ⟨x, y, t, rfl, E49⟩ := popII_some E; replace E := E49; try dsimp only at E
    obtain rfl := nxt_inj E
    obtain ⟨u1, rfl, hS50⟩ := hS.i; replace hS := hS50
    obtain ⟨u2, rfl, hS51⟩ := hS.i; replace hS := hS51
    exact lv_ior hx hb hd (K rfl ad tys ws H locs _ _ cells slots hM hL ⟨_, _, rfl, rfl, hS⟩ hH hK hP hD hV hcb hsb)
  | ixor =>
    dsimp only at E
    obtain ⟨hd, hl⟩ := andT hC; have hd := of_decide_eq_true hd; obtain rfl := eq_of_beq hl
    obtain ⟨x, y, t, rfl, E52⟩ := popII_some E; replace E := E52; try dsimp only at E
    obtain rfl := nxt_inj E
    obtain ⟨u1, rfl, hS53⟩ := hS.i; replace hS := hS53
    obtain ⟨u2, rfl, hS54⟩ := hS.i; replace hS := hS54
    exact lv_ixor hx hb hd (K rfl ad tys ws H locs _ _ cells slots hM hL ⟨_, _, rfl, rfl, hS⟩ hH hK hP hD hV hcb hsb)
  | ishl =>
    dsimp only at E
    obtain ⟨hd, hl⟩ := andT hC; have hd := of_decide_eq_true hd; obtain rfl := eq_of_beq hl
    obtain ⟨x, y, t, rfl, E55⟩ := popII_some E; replace E := E55; try dsimp only at E
    obtain rfl := nxt_inj E
    obtain ⟨u1, rfl, hS56⟩ := hS.i; replace hS := hS56
    obtain ⟨u2, rfl, hS57⟩ := hS.i; replace hS := hS57
    exact lv_ishl hx hb hd (K rfl ad tys ws H locs _ _ cells slots hM hL ⟨_, _, rfl, rfl, hS⟩ hH hK hP hD hV hcb hsb)
  | ishr =>
    dsimp only at E
    obtain ⟨hd, hl⟩ := andT hC; have hd := of_decide_eq_true hd; obtain rfl := eq_of_beq hl
    obtain ⟨x, y, t, rfl, E58⟩ := popII_some E; replace E := E58; try dsimp only at E
    obtain rfl := nxt_inj E
    obtain ⟨u1, rfl, hS59⟩ := hS.i; replace hS := hS59
    obtain ⟨u2, rfl, hS60⟩ := hS.i; replace hS := hS60
    exact lv_ishr hx hb hd (K rfl ad tys ws H locs _ _ cells slots hM hL ⟨_, _, rfl, rfl, hS⟩ hH hK hP hD hV hcb hsb)
  | iushr =>
    dsimp only at E
    obtain ⟨hd, hl⟩ := andT hC; have hd := of_decide_eq_true hd; obtain rfl := eq_of_beq hl
    obtain ⟨x, y, t, rfl, E61⟩ := popII_some E; replace E := E61; try dsimp only at E
    obtain rfl := nxt_inj E
    obtain ⟨u1, rfl, hS62⟩ := hS.i; replace hS := hS62
    obtain ⟨u2, rfl, hS63⟩ := hS.i; replace hS := hS63
    exact lv_iushr hx hb hd rfl (K rfl ad tys ws H locs _ _ cells slots hM hL ⟨_, _, rfl, rfl, hS⟩ hH hK hP hD hV hcb hsb)
  | idiv =>
    dsimp only at E
    obtain ⟨hd, hl⟩ := andT hC; have hd := of_decide_eq_true hd; obtain rfl := eq_of_beq hl
    obtain ⟨x, y, t, rfl, E64⟩ := popII_some E; replace E := E64; try dsimp only at E
    split at E
    · cases E
    rename_i hy
    obtain rfl := nxt_inj E
    obtain ⟨u1, rfl, hS65⟩ := hS.i; replace hS := hS65
    obtain ⟨u2, rfl, hS66⟩ := hS.i; replace hS := hS66
    exact lv_idiv hx hb hd hy (K rfl ad tys ws H locs _ _ cells slots hM hL ⟨_, _, rfl, rfl, hS⟩ hH hK hP hD hV hcb hsb)
  | irem =>
    dsimp only at E
    obtain ⟨hd, hl⟩ := andT hC; have hd := of_decide_eq_true hd; obtain rfl := eq_of_beq hl
    obtain ⟨x, y, t, rfl, E67⟩ := popII_some E; replace E := E67; try dsimp only at E
    split at E
    · cases E
    rename_i hy
    obtain rfl := nxt_inj E
    obtain ⟨u1, rfl, hS68⟩ := hS.i; replace hS := hS68
    obtain ⟨u2, rfl, hS69⟩ := hS.i; replace hS := hS69
    exact lv_irem hx hb hd hy (K rfl ad tys ws H locs _ _ cells slots hM hL ⟨_, _, rfl, rfl, hS⟩ hH hK hP hD hV hcb hsb)
  | i2l =>
    dsimp only at E
    obtain ⟨hd, hl⟩ := andT hC; have hd := of_decide_eq_true hd; obtain rfl := eq_of_beq hl
    obtain ⟨x, t, rfl, E70⟩ := popI_some E; replace E := E70; try dsimp only at E
    obtain rfl := nxt_inj E
    obtain ⟨u1, rfl, hS71⟩ := hS.i; replace hS := hS71
    exact lv_i2l hx hb hd rfl (K rfl ad tys ws H locs _ _ cells slots hM hL ⟨_, _, rfl, rfl, hS⟩ hH hK hP hD hV hcb hsb)
  | l2i =>
    dsimp only at E
    obtain ⟨hd, hl⟩ := andT hC; have hd := of_decide_eq_true hd; obtain rfl := eq_of_beq hl
    obtain ⟨x, t, rfl, E72⟩ := popL_some E; replace E := E72; try dsimp only at E
    obtain rfl := nxt_inj E
    obtain ⟨u1, rfl, hS73⟩ := hS.l; replace hS := hS73
    exact lv_l2i hx hb hd rfl (K rfl ad tys ws H locs _ _ cells slots hM hL ⟨_, _, rfl, rfl, hS⟩ hH hK hP hD hV hcb hsb)
  | ladd =>
    dsimp only at E
    obtain ⟨hd, hl⟩ := andT hC; have hd := of_decide_eq_true hd; obtain rfl := eq_of_beq hl
    obtain ⟨x, y, t, rfl, E74⟩ := popLL_some E; replace E := E74; try dsimp only at E
    obtain rfl := nxt_inj E
    obtain ⟨u1, rfl, hS75⟩ := hS.l; replace hS := hS75
    obtain ⟨u2, rfl, hS76⟩ := hS.l; replace hS := hS76
    exact lv_ladd hx hb hd (K rfl ad tys ws H locs _ _ cells slots hM hL ⟨_, _, rfl, rfl, hS⟩ hH hK hP hD hV hcb hsb)
  | lmul =>
    dsimp only at E
    obtain ⟨hd, hl⟩ := andT hC; have hd := of_decide_eq_true hd; obtain rfl := eq_of_beq hl
    obtain ⟨x, y, t, rfl, E77⟩ := popLL_some E; replace E := E77; try dsimp only at E
    obtain rfl := nxt_inj E
    obtain ⟨u1, rfl, hS78⟩ := hS.l; replace hS := hS78
    obtain ⟨u2, rfl, hS79⟩ := hS.l; replace hS := hS79
    exact lv_lmul hx hb hd (K rfl ad tys ws H locs _ _ cells slots hM hL ⟨_, _, rfl, rfl, hS⟩ hH hK hP hD hV hcb hsb)
  | land =>
    dsimp only at E
    obtain ⟨hd, hl⟩ := andT hC; have hd := of_decide_eq_true hd; obtain rfl := eq_of_beq hl
    obtain ⟨x, y, t, rfl, E80⟩ := popLL_some E; replace E := E80; try dsimp only at E
    obtain rfl := nxt_inj E
    obtain ⟨u1, rfl, hS81⟩ := hS.l; replace hS := hS81
    obtain ⟨u2, rfl, hS82⟩ := hS.l; replace hS := hS82
    exact lv_land hx hb hd (K rfl ad tys ws H locs _ _ cells slots hM hL ⟨_, _, rfl, rfl, hS⟩ hH hK hP hD hV hcb hsb)
  | lcmp =>
    dsimp only at E
    obtain ⟨hd, hl⟩ := andT hC; have hd := of_decide_eq_true hd; obtain rfl := eq_of_beq hl
    obtain ⟨x, y, t, rfl, E83⟩ := popLL_some E; replace E := E83; try dsimp only at E
    obtain rfl := nxt_inj E
    obtain ⟨u1, rfl, hS84⟩ := hS.l; replace hS := hS84
    obtain ⟨u2, rfl, hS85⟩ := hS.l; replace hS := hS85
    exact W.lcmp hx hb hd (K rfl ad tys ws H locs _ _ cells slots hM hL ⟨_, _, rfl, rfl, hS⟩ hH hK hP hD hV hcb hsb)
  | dup =>
    dsimp only at E
    obtain ⟨hd, hl⟩ := andT hC; have hd := of_decide_eq_true hd; obtain rfl := eq_of_beq hl
    obtain ⟨v, t, rfl, hv, E86⟩ := popV_some E; replace E := E86; try dsimp only at E
    obtain rfl := nxt_inj E
    obtain ⟨w, u, rfl, hr, hS87⟩ := hS; replace hS := hS87
    exact lv_dup hx hb hd (hr.cat.trans hv) (K rfl ad tys ws H locs _ _ cells slots hM hL ⟨_, _, rfl, hr, _, _, rfl, hr, hS⟩ hH hK hP hD hV hcb hsb)
  | dup2 =>
    dsimp only at E
    obtain ⟨hd, hl⟩ := andT hC; have hd := of_decide_eq_true hd; obtain rfl := eq_of_beq hl
    obtain ⟨v, t, rfl, hv, E88⟩ := popV_some E; replace E := E88; try dsimp only at E
    obtain ⟨v2, t2, rfl, hv2, E89⟩ := popV_some E; replace E := E89; try dsimp only at E
    obtain rfl := nxt_inj E
    obtain ⟨w, u, rfl, hr, w2, u2, rfl, hr2, hS90⟩ := hS; replace hS := hS90
    exact lv_dup2_11 hx hb hd (hr.cat.trans hv) (hr2.cat.trans hv2) (K rfl ad tys ws H locs _ _ cells slots hM hL ⟨_, _, rfl, hr, _, _, rfl, hr2, _, _, rfl, hr, _, _, rfl, hr2, hS⟩ hH hK hP hD hV hcb hsb)
  | ifCond cn off =>
    dsimp only at E
    obtain ⟨hd, hC⟩ := andT hC; have hd := of_decide_eq_true hd; obtain ⟨hl, hC⟩ := andT hC; obtain rfl := eq_of_beq hl; have ht := of_decide_eq_true hC
    obtain ⟨x, t, rfl, E91⟩ := popI_some E; replace E := E91; try dsimp only at E
    obtain ⟨u1, rfl, hS92⟩ := hS.i; replace hS := hS92
    cases cn with
    | eq =>
      refine lv_if_eq hx hb hd ht (fun hc => ?_) (fun hc => ?_)
      · simp only [isN, if_pos hc] at E; obtain rfl := nxt_inj E; exact K rfl ad tys ws H locs _ _ cells slots hM hL hS hH hK hP hD hV hcb hsb
      · simp only [isN, if_neg hc] at E; obtain rfl := nxt_inj E; exact K rfl ad tys ws H locs _ _ cells slots hM hL hS hH hK hP hD hV hcb hsb
    | ne =>
      refine lv_if_ne hx hb hd ht (fun hc => ?_) (fun hc => ?_)
      · simp only [isN, if_neg hc] at E; obtain rfl := nxt_inj E; exact K rfl ad tys ws H locs _ _ cells slots hM hL hS hH hK hP hD hV hcb hsb
      · simp only [isN, if_pos hc] at E; obtain rfl := nxt_inj E; exact K rfl ad tys ws H locs _ _ cells slots hM hL hS hH hK hP hD hV hcb hsb
    | lt =>
      refine lv_if_lt hx hb hd ht (fun hc => ?_) (fun hc => ?_)
      · simp only [isN, if_pos hc] at E; obtain rfl := nxt_inj E; exact K rfl ad tys ws H locs _ _ cells slots hM hL hS hH hK hP hD hV hcb hsb
      · simp only [isN, if_neg hc] at E; obtain rfl := nxt_inj E; exact K rfl ad tys ws H locs _ _ cells slots hM hL hS hH hK hP hD hV hcb hsb
    | ge =>
      refine lv_if_ge hx hb hd ht (fun hc => ?_) (fun hc => ?_)
      · simp only [isN, if_pos hc] at E; obtain rfl := nxt_inj E; exact K rfl ad tys ws H locs _ _ cells slots hM hL hS hH hK hP hD hV hcb hsb
      · simp only [isN, if_neg hc] at E; obtain rfl := nxt_inj E; exact K rfl ad tys ws H locs _ _ cells slots hM hL hS hH hK hP hD hV hcb hsb
    | gt =>
      refine lv_if_gt hx hb hd ht (fun hc => ?_) (fun hc => ?_)
      · simp only [isN, if_pos hc] at E; obtain rfl := nxt_inj E; exact K rfl ad tys ws H locs _ _ cells slots hM hL hS hH hK hP hD hV hcb hsb
      · simp only [isN, if_neg hc] at E; obtain rfl := nxt_inj E; exact K rfl ad tys ws H locs _ _ cells slots hM hL hS hH hK hP hD hV hcb hsb
    | le =>
      refine lv_if_le hx hb hd ht (fun hc => ?_) (fun hc => ?_)
      · simp only [isN, if_pos hc] at E; obtain rfl := nxt_inj E; exact K rfl ad tys ws H locs _ _ cells slots hM hL hS hH hK hP hD hV hcb hsb
      · simp only [isN, if_neg hc] at E; obtain rfl := nxt_inj E; exact K rfl ad tys ws H locs _ _ cells slots hM hL hS hH hK hP hD hV hcb hsb
  | if_icmp cn off =>
    dsimp only at E
    obtain ⟨hd, hC⟩ := andT hC; have hd := of_decide_eq_true hd; obtain ⟨hl, hC⟩ := andT hC; obtain rfl := eq_of_beq hl; have ht := of_decide_eq_true hC
    obtain ⟨x, y, t, rfl, E93⟩ := popII_some E; replace E := E93; try dsimp only at E
    obtain ⟨u1, rfl, hS94⟩ := hS.i; replace hS := hS94
    obtain ⟨u2, rfl, hS95⟩ := hS.i; replace hS := hS95
    cases cn with
    | eq =>
      refine lv_icmp_eq hx hb hd ht (fun hc => ?_) (fun hc => ?_)
      · simp only [isN, if_pos hc] at E; obtain rfl := nxt_inj E; exact K rfl ad tys ws H locs _ _ cells slots hM hL hS hH hK hP hD hV hcb hsb
      · simp only [isN, if_neg hc] at E; obtain rfl := nxt_inj E; exact K rfl ad tys ws H locs _ _ cells slots hM hL hS hH hK hP hD hV hcb hsb
    | ne =>
      refine lv_icmp_ne hx hb hd ht (fun hc => ?_) (fun hc => ?_)
      · simp only [isN, if_neg hc] at E; obtain rfl := nxt_inj E; exact K rfl ad tys ws H locs _ _ cells slots hM hL hS hH hK hP hD hV hcb hsb
      · simp only [isN, if_pos hc] at E; obtain rfl := nxt_inj E; exact K rfl ad tys ws H locs _ _ cells slots hM hL hS hH hK hP hD hV hcb hsb
    | lt =>
      refine lv_icmp_lt hx hb hd ht (fun hc => ?_) (fun hc => ?_)
      · simp only [isN, if_pos hc] at E; obtain rfl := nxt_inj E; exact K rfl ad tys ws H locs _ _ cells slots hM hL hS hH hK hP hD hV hcb hsb
      · simp only [isN, if_neg hc] at E; obtain rfl := nxt_inj E; exact K rfl ad tys ws H locs _ _ cells slots hM hL hS hH hK hP hD hV hcb hsb
    | ge =>
      refine lv_icmp_ge hx hb hd ht (fun hc => ?_) (fun hc => ?_)
      · simp only [isN, if_pos hc] at E; obtain rfl := nxt_inj E; exact K rfl ad tys ws H locs _ _ cells slots hM hL hS hH hK hP hD hV hcb hsb
      · simp only [isN, if_neg hc] at E; obtain rfl := nxt_inj E; exact K rfl ad tys ws H locs _ _ cells slots hM hL hS hH hK hP hD hV hcb hsb
    | gt =>
      refine lv_icmp_gt hx hb hd ht (fun hc => ?_) (fun hc => ?_)
      · simp only [isN, if_pos hc] at E; obtain rfl := nxt_inj E; exact K rfl ad tys ws H locs _ _ cells slots hM hL hS hH hK hP hD hV hcb hsb
      · simp only [isN, if_neg hc] at E; obtain rfl := nxt_inj E; exact K rfl ad tys ws H locs _ _ cells slots hM hL hS hH hK hP hD hV hcb hsb
    | le =>
      refine lv_icmp_le hx hb hd ht (fun hc => ?_) (fun hc => ?_)
      · simp only [isN, if_pos hc] at E; obtain rfl := nxt_inj E; exact K rfl ad tys ws H locs _ _ cells slots hM hL hS hH hK hP hD hV hcb hsb
      · simp only [isN, if_neg hc] at E; obtain rfl := nxt_inj E; exact K rfl ad tys ws H locs _ _ cells slots hM hL hS hH hK hP hD hV hcb hsb
  | goto off =>
    dsimp only at E
    obtain ⟨hd, hC⟩ := andT hC; have hd := of_decide_eq_true hd; obtain ⟨hl, hC⟩ := andT hC; obtain rfl := eq_of_beq hl; have ht := of_decide_eq_true hC
    obtain rfl := nxt_inj E
    exact lv_goto hx hb hd ht (K rfl ad tys ws H locs _ _ cells slots hM hL hS hH hK hP hD hV hcb hsb)
  | tableswitch d lo hi offs =>
    dsimp only at E
    obtain ⟨hd, hC⟩ := andT hC; have hd := of_decide_eq_true hd
    obtain ⟨x, t, rfl, E96⟩ := popI_some E; replace E := E96; try dsimp only at E
    obtain ⟨off, ho, ht, E97⟩ := jmp_some E; replace E := E97; try dsimp only at E
    obtain rfl := nxt_inj E
    obtain ⟨u1, rfl, hS98⟩ := hS.i; replace hS := hS98
    by_cases hc : x.toInt < lo ∨ hi < x.toInt
    · rw [if_pos hc] at ho; cases ho; exact lv_tableOut hx hb hd hc ht (K rfl ad tys ws H locs _ _ cells slots hM hL hS hH hK hP hD hV hcb hsb)
    · rw [if_neg hc] at ho; exact lv_tableIn hx hb hd (fun q => hc (Or.inl q)) (fun q => hc (Or.inr q)) ho ht (K rfl ad tys ws H locs _ _ cells slots hM hL hS hH hK hP hD hV hcb hsb)
  | lookupswitch d ps =>
    dsimp only at E
    obtain ⟨hd, hC⟩ := andT hC; have hd := of_decide_eq_true hd
    obtain ⟨x, t, rfl, E99⟩ := popI_some E; replace E := E99; try dsimp only at E
    obtain ⟨off, ho, ht, E100⟩ := jmp_some E; replace E := E100; try dsimp only at E
    obtain rfl := nxt_inj E
    obtain ⟨u1, rfl, hS101⟩ := hS.i; replace hS := hS101
    exact lv_lookup hx hb hd (of_decide_eq_true hC) (Option.some.inj ho) ht (K rfl ad tys ws H locs _ _ cells slots hM hL hS hH hK hP hD hV hcb hsb)
  | getfield ix =>
    dsimp only at E
    obtain ⟨hd, hC⟩ := andT hC; have hd := of_decide_eq_true hd
    obtain ⟨hC, hw⟩ := andT hC; obtain ⟨hC, h9⟩ := andT hC; obtain ⟨hl, hb2⟩ := andT hC; obtain rfl := eq_of_beq hl; have h9 := of_decide_eq_true h9; have hb2 := of_decide_eq_true hb2
    obtain ⟨i, t, rfl, E102⟩ := popR_some E; replace E := E102; try dsimp only at E
    obtain ⟨a1, u1, rfl, hr, hS103⟩ := hS.r; replace hS := hS103
    split at E
    · rename_i ci fs hg1
      split at E
      · rename_i hci
        subst hci
        split at E
        · rename_i v hv
          obtain rfl := nxt_inj E
          obtain ⟨a2, x2, e1, had, hws, gs, rfl, hgs⟩ := hH.get hg1 hr
          cases e1
          obtain ⟨w1, hw1, hrw⟩ := hgs.get hv
          exact va_get (ci := ci) (C := RC ci) (T := TT ci) (N := NF ci) hx hb hts (lay_in ci h9) hown hK hP i hws (vw_at ci h9) b2 hb2 (hts _ (wat_in hw rfl)) (fun _ h => h) hw1 hd (K rfl ad tys ws H locs _ _ cells slots hM hL ⟨_, _, rfl, hrw, hS⟩ hH hK hP hD hV hcb hsb)
        · cases E
      · cases E
    · cases E
  | putfield ix =>
    dsimp only at E
    obtain ⟨hd, hC⟩ := andT hC; have hd := of_decide_eq_true hd
    obtain ⟨hC, hfin⟩ := andT hC; obtain ⟨hC, hw⟩ := andT hC; obtain ⟨hC, h9⟩ := andT hC; obtain ⟨hl, hb2⟩ := andT hC; obtain rfl := eq_of_beq hl; have h9 := of_decide_eq_true h9; have hb2 := of_decide_eq_true hb2
    obtain ⟨v, t0, rfl, hvc, E104⟩ := popV_some E; replace E := E104; try dsimp only at E
    obtain ⟨i, t, rfl, E105⟩ := popR_some E; replace E := E105; try dsimp only at E
    obtain ⟨w1, u0, rfl, hrw, hS106⟩ := hS; replace hS := hS106
    obtain ⟨a1, u1, rfl, hr, hS107⟩ := hS.r; replace hS := hS107
    split at E
    · rename_i ci fs hg1
      split at E
      · rename_i hci
        obtain ⟨hci, hbl, hfo⟩ := hci
        subst hci
        obtain rfl := nxt_inj E
        obtain ⟨a2, x2, e1, had, hws, gs, rfl, hgs⟩ := hH.get hg1 hr
        cases e1
        obtain ⟨hn1, hf1⟩ := fld_ok hfo hrw
        have hH2 := hH.set (i := i) (o := .inr (ci, fs.set b2 v)) (x := .inr (ci, gs.set b2 w1)) had ⟨_, rfl, hgs.set hrw b2⟩
        cases hF : (TT ci b2).2.2.2 with
        | false => exact va_put (ci := ci) (C := RC ci) (T := TT ci) (N := NF ci) hx hb hts (lay_in ci h9) (TYF ci) (tyf_ok ci h9) (nmf_ok ci h9) hown hK hP hD hV i hws (vw_at ci h9) b2 hb2 (hts _ (wat_in hw rfl)) (fun _ h => h) hF (tyf_ok ci h9 b2 hb2) hn1 hf1 (by rw [hgs.len]; exact hbl) hd (fun H1 locs1 hP hD hV => K rfl ad tys _ H1 locs1 _ _ cells slots hM hL hS hH2 hK hP hD hV hcb hsb)
        | true =>
          rw [hF] at hfin
          obtain ⟨hf2, hf3⟩ := andT (show (decide ((TT ci b2).1 = RC (CK k)) && decide ((YN k).name = "<init>")) = true from hfin)
          exact va_putF (ci := ci) (C := RC ci) (T := TT ci) (N := NF ci) hx hb hts (lay_in ci h9) (TYF ci) (tyf_ok ci h9) (nmf_ok ci h9) hown hK hP hD hV i hws (vw_at ci h9) b2 hb2 (hts _ (wat_in hw rfl)) (fun _ h => h) hF ((hname (fun q => by rw [q] at hf3; exact absurd hf3 (by decide))).trans (of_decide_eq_true hf3)) (of_decide_eq_true hf2) (tyf_ok ci h9 b2 hb2) hn1 hf1 (by rw [hgs.len]; exact hbl) hd (fun H1 locs1 hP hD hV => K rfl ad tys _ H1 locs1 _ _ cells slots hM hL hS hH2 hK hP hD hV hcb hsb)
      · cases E
    · cases E
  | iaload =>
    dsimp only at E
    obtain ⟨hd, hl⟩ := andT hC; have hd := of_decide_eq_true hd; obtain rfl := eq_of_beq hl
    obtain ⟨j, t0, rfl, E108⟩ := popI_some E; replace E := E108; try dsimp only at E
    obtain ⟨i, t, rfl, E109⟩ := popR_some E; replace E := E109; try dsimp only at E
    obtain ⟨u0, rfl, hS110⟩ := hS.i; replace hS := hS110
    obtain ⟨a1, u1, rfl, hr, hS111⟩ := hS.r; replace hS := hS111
    split at E
    · rename_i hscr
      split at E
      · rename_i hj
        obtain rfl := nxt_inj E
        obtain ⟨hX1, hX2, hX3⟩ := hX hj.1
        rcases hr with ⟨-, hr⟩ | ⟨hr, -⟩
        · cases hr; exact va_sld hx hb hX1 hX2 hX3 hV hj.2 hd (K rfl ad tys ws H locs _ _ cells slots hM hL ⟨_, _, rfl, rfl, hS⟩ hH hK hP hD hV hcb hsb)
        · exact absurd hscr hr
      · cases E
    · split at E
      · rename_i n f hg1
        split at E
        · rename_i hj
          obtain rfl := nxt_inj E
          obtain ⟨a2, x2, e1, had, hws, cA, rfl, hty⟩ := hH.get hg1 hr
          cases e1
          obtain ⟨t0, ht0⟩ := List.getElem?_of_mem hty
          exact va_iald hx hb hK hP i t0 hws ht0 hj hd (K rfl ad tys ws H locs _ _ cells slots hM hL ⟨_, _, rfl, rfl, hS⟩ hH hK hP hD hV hcb hsb)
        · cases E
      · cases E
  | iastore =>
    dsimp only at E
    obtain ⟨hd, hl⟩ := andT hC; have hd := of_decide_eq_true hd; obtain rfl := eq_of_beq hl
    obtain ⟨j, x, t0, rfl, E112⟩ := popII_some E; replace E := E112; try dsimp only at E
    obtain ⟨i, t, rfl, E113⟩ := popR_some E; replace E := E113; try dsimp only at E
    obtain ⟨u0, rfl, hS114⟩ := hS.i; replace hS := hS114
    obtain ⟨u2, rfl, hS115⟩ := hS.i; replace hS := hS115
    obtain ⟨a1, u1, rfl, hr, hS116⟩ := hS.r; replace hS := hS116
    split at E
    · rename_i n f hg1
      split at E
      · rename_i hj
        obtain rfl := nxt_inj E
        obtain ⟨a2, x2, e1, had, hws, cA, rfl, hty⟩ := hH.get hg1 hr
        cases e1
        obtain ⟨t0, ht0⟩ := List.getElem?_of_mem hty
        have hH2 := hH.set (i := i) (o := .inl (n, upd f j.toNatClampNeg x)) (x := .inl (cA, n, .inl (upd f j.toNatClampNeg x))) had ⟨_, rfl, hty⟩
        exact va_iast hx hb hK hP hD hV i t0 hws ht0 hj hd (fun H1 locs1 hP hD hV => K rfl ad tys _ H1 locs1 _ _ cells slots hM hL hS hH2 hK hP hD hV hcb hsb)
      · cases E
    · cases E
  | arraylength =>
    dsimp only at E
    obtain ⟨hd, hl⟩ := andT hC; have hd := of_decide_eq_true hd; obtain rfl := eq_of_beq hl
    obtain ⟨i, t, rfl, E117⟩ := popR_some E; replace E := E117; try dsimp only at E
    obtain ⟨a1, u1, rfl, hr, hS118⟩ := hS.r; replace hS := hS118
    split at E
    · rename_i hscr
      split at E
      · rename_i hj
        obtain rfl := nxt_inj E
        obtain ⟨hX1, hX2, hX3⟩ := hX hj
        rcases hr with ⟨-, hr⟩ | ⟨hr, -⟩
        · cases hr; exact va_slen hx hb hX1 hX2 hX3 hV hd (K rfl ad tys ws H locs _ _ cells slots hM hL ⟨_, _, rfl, rfl, hS⟩ hH hK hP hD hV hcb hsb)
        · exact absurd hscr hr
      · cases E
    · split at E
      · rename_i n f hg1
        obtain rfl := nxt_inj E
        obtain ⟨a2, x2, e1, had, hws, cA, rfl, hty⟩ := hH.get hg1 hr
        cases e1
        obtain ⟨t0, ht0⟩ := List.getElem?_of_mem hty
        exact va_alen hx hb hK hP i t0 hws ht0 rfl hd (K rfl ad tys ws H locs _ _ cells slots hM hL ⟨_, _, rfl, rfl, hS⟩ hH hK hP hD hV hcb hsb)
      · cases E
  | new ix =>
    dsimp only at E
    obtain ⟨hd, hC⟩ := andT hC; have hd := of_decide_eq_true hd
    obtain ⟨hC, hw3⟩ := andT hC; obtain ⟨hC, hw2⟩ := andT hC; obtain ⟨hC, hw1⟩ := andT hC; obtain ⟨hl, h9⟩ := andT hC; obtain rfl := eq_of_beq hl; have h9 := of_decide_eq_true h9
    split at E
    · rename_i hbud
      obtain ⟨hb1, hb2, hb3⟩ := hbud
      obtain rfl := nxt_inj E
      refine va_new (ci := a) (C := RC a) (T := TT a) (N := NF a) (fs := (List.range (NF a)).map (fun j => defaultValue (TYF a j))) hx hb hts (lay_in a h9) (TYF a) (tyf_ok a h9) hown (hts _ (wat_in hw1 rfl)) (hts _ (wat_in hw2 rfl)) (hts _ (wat_in hw3 rfl)) hK hP hD hV hA (vw_at a h9) (fun j hj => ?_) (by omega) (by omega) hd (fun q H1 hP hD hV => ?_)
      · simp [vp_V, List.getD, hj]
      · refine K rfl (ad ++ [q]) tys _ H1 locs _ _ (cells + 1) (slots + NF a) (fun i a h => ad_app q i a (hM i a h)) (hL.mono (ad_app q)) ⟨_, _, rfl, RV.new hH.1.symm hb3, hS.mono (ad_app q)⟩ (hH.push (fun _ h => h) ⟨_, rfl, RS_dflt _ _⟩) hK hP hD hV (by omega) (by omega)
    · cases E
  | newarray at_ =>
    dsimp only at E
    obtain ⟨hd, hC⟩ := andT hC; have hd := of_decide_eq_true hd
    obtain ⟨hl, hC⟩ := andT hC; obtain rfl := eq_of_beq hl; obtain rfl := of_decide_eq_true hC
    obtain ⟨n, t, rfl, E119⟩ := popI_some E; replace E := E119; try dsimp only at E
    obtain ⟨u0, rfl, hS120⟩ := hS.i; replace hS := hS120
    split at E
    · rename_i hbud
      obtain ⟨hb0, hb4, hb1, hb2, hb3⟩ := hbud
      obtain rfl := nxt_inj E
      refine va_newa (atype := .int) (ty := .int) (a0 := (n.toNatClampNeg, .inl (fun _ => 0))) hx hb (hts _ (wat_in (andT ck_obj).2 rfl)) rfl hK hP hD hV hA (fun cA => rfl) hb0 rfl (by show n.toNatClampNeg * 4 ≤ 536870912; omega) (by omega) (by omega) hd (fun q cA H1 hK hP hD hV => ?_)
      exact K rfl (ad ++ [q]) _ _ H1 locs _ _ (cells + 1) (slots + n.toNatClampNeg) (fun i a h => ad_app q i a (hM i a h)) (hL.mono (ad_app q)) ⟨_, _, rfl, RV.new hH.1.symm hb3, hS.mono (ad_app q)⟩ (hH.push (fun _ h => List.mem_append_left _ h) ⟨cA, rfl, List.mem_append_right _ List.mem_cons_self⟩) hK hP hD hV (by omega) (by omega)
    · cases E
  | invokevirtual ix =>
    dsimp only at E
    exact absurd E (call_nn _ _ _ _ _ _ _ _ _ _ _ _)
  | invokestatic ix =>
    dsimp only at E
    obtain ⟨hd, hC⟩ := andT hC; have hd := of_decide_eq_true hd
    split at E
    · rename_i h6
      subst h6
      obtain ⟨hl, hC⟩ := andT hC; obtain rfl := eq_of_beq hl
      have hw := stat6 hC
      obtain ⟨x, y, t, rfl, E121⟩ := popII_some E; replace E := E121; try dsimp only at E
      obtain ⟨u1, rfl, hS122⟩ := hS.i; replace hS := hS122
      obtain ⟨u2, rfl, hS123⟩ := hS.i; replace hS := hS123
      split at E
      · rename_i hcs
        obtain rfl := nxt_inj E
        have hcs2 := hS.cs
        exact va_mmax hx hb (by rw [hml]; exact hL.2.1.symm) hown (hts _ (wat_in hw rfl)) (hts _ (wat_in (andT (andT ck_max).1).1 rfl)) (hts _ (wat_in (andT (andT ck_max).1).2 rfl)) (hts _ (wat_in (andT ck_max).2 rfl)) (by omega) (by show csum _ + 13 ≤ _; omega) (by omega) (by omega) hd (K rfl ad tys ws H locs _ _ cells slots hM hL ⟨_, _, rfl, rfl, hS⟩ hH hK hP hD hV hcb hsb)
      · cases E
    · exact absurd E (call_nn _ _ _ _ _ _ _ _ _ _ _ _)
  | invokespecial ix =>
    dsimp only at E
    obtain ⟨hd, hC⟩ := andT hC; have hd := of_decide_eq_true hd
    split at E
    · rename_i h5
      subst h5
      obtain ⟨hl, hC⟩ := andT hC; obtain rfl := eq_of_beq hl
      have hw := spec5 hC
      obtain ⟨i, t, rfl, E124⟩ := popR_some E; replace E := E124; try dsimp only at E
      obtain ⟨a1, u1, rfl, hr, hS125⟩ := hS.r; replace hS := hS125
      split at E
      · rename_i hcs
        obtain rfl := nxt_inj E
        have hcs2 := hS.cs
        refine W.objInit hx hb hown (hts _ (wat_in hw rfl)) (hts _ (wat_in (andT (andT ck_obj).1).2 rfl)) (hts _ (wat_in (andT (andT ck_obj).1).1 rfl)) rfl (by rw [hml]; exact hL.2.1) rfl hd (by omega) (by show 2 * 0 + csum _ + 12 ≤ _; omega) ?_
        exact K rfl ad tys ws H locs _ _ cells slots hM hL hS hH hK hP hD hV hcb hsb
      · cases E
    · exact absurd E (call_nn _ _ _ _ _ _ _ _ _ _ _ _)
  | _ => cases E
