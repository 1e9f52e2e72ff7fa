/-! DAYS, on both sides (wb_.. begin as rows of kit/laws/BITS) -/
theorem wb_tb (n : Nat) : (lN n).toBitVec = BitVec.ofNat 64 n := rfl
theorem wb_inj {a b : Int64} (h : a.toBitVec = b.toBitVec) : a = b := Int64.toBitVec_inj.mp h
theorem wb_of (x : Int64) : ∃ n, n < 2 ^ 64 ∧ x = lN n := ⟨x.toBitVec.toNat, x.toBitVec.isLt, wb_inj (by rw [wb_tb]; simp)⟩
theorem wb_and {a b : Nat} (ha : a < 2 ^ 64) (hb : b < 2 ^ 64) : lN a &&& lN b = lN (a &&& b) := by
  apply wb_inj
  rw [Int64.toBitVec_and, wb_tb, wb_tb, wb_tb]
  apply BitVec.eq_of_toNat_eq
  rw [BitVec.toNat_and, BitVec.toNat_ofNat, BitVec.toNat_ofNat, BitVec.toNat_ofNat, Nat.mod_eq_of_lt ha, Nat.mod_eq_of_lt hb, Nat.mod_eq_of_lt (Nat.and_lt_two_pow _ hb)]
def dr (x : Int32) : Int32 := Int64.toInt32 ((lN 1103515245 * Int32.toInt64 x + lN 12345) &&& lN 2147483647)
theorem dr_ex (x : Int32) : ∃ v, v < 2147483648 ∧ dr x = nI v := by
  obtain ⟨n, hn, e⟩ := wb_of (lN 1103515245 * Int32.toInt64 x + lN 12345)
  refine ⟨n % 2147483648, Nat.mod_lt _ (by decide), ?_⟩
  unfold dr
  rw [e, wb_and hn (by decide), show n &&& 2147483647 = n % 2147483648 from Nat.and_two_pow_sub_one_eq_mod n 31, lN_i]
noncomputable def dv (x : Int32) : Nat := (dr_ex x).choose
theorem dv_ok (x : Int32) : dv x < 2147483648 ∧ dr x = nI (dv x) := (dr_ex x).choose_spec
noncomputable def dw (x : Int32) : Nat := dv x / 65536 % 4
noncomputable def dst (s : Nat → Nat) (seen : Int32) (p : Nat) (S : (Nat → Nat) × Int32 × Int32) : (Nat → Nat) × Int32 × Int32 :=
  if fb s (S.1 p) (dw S.2.2) < 12 then (fun j => if j = p then fb s (S.1 p) (dw S.2.2) else S.1 j, S.2.1 + tb seen (fb s (S.1 p) (dw S.2.2)), dr S.2.2) else (S.1, S.2.1, dr S.2.2)
noncomputable def din (s : Nat → Nat) (seen : Int32) : Nat → (Nat → Nat) × Int32 × Int32 → (Nat → Nat) × Int32 × Int32
  | 0, S => S
  | p + 1, S => dst s seen p (din s seen p S)
noncomputable def dou (s : Nat → Nat) (seen : Int32) (m : Nat) : Nat → (Nat → Nat) × Int32 × Int32 → (Nat → Nat) × Int32 × Int32
  | 0, S => S
  | t + 1, S => din s seen m (dou s seen m t S)
def AgD (I I0 : Nat → Int32) : Prop := ∀ j, j ≠ 17 → j ≠ 18 → I j = I0 j
theorem AgD.tr {I J K : Nat → Int32} (h1 : AgD I J) (h2 : AgD J K) : AgD I K := fun j a b => (h1 j a b).trans (h2 j a b)
def AgP (q : Nat) (A A0 : Nat → Nat → Int32) : Prop := ∀ p, p ≠ q → A p = A0 p
theorem AgP.tr {q : Nat} {A B C : Nat → Nat → Int32} (h : AgP q A B) (h2 : AgP q B C) : AgP q A C := fun p a => (h p a).trans (h2 p a)
/-- the class's days so far -/
def DX (m : Nat) (S : (Nat → Nat) × Int32 × Int32) (I : Nat → Int32) (A : Nat → Nat → Int32) : Prop := (∀ j, j < m → S.1 j < 12 ∧ A 25 j = nI (S.1 j)) ∧ I 17 = S.2.1 ∧ I 18 = S.2.2
theorem goBy_ok (sc : Nat × (Nat → Int32)) (I : Nat → Int32) (A : Nat → Nat → Int32) (Z : Int64) (s : Nat → Nat) (d : Nat) (hX : XH s d I A) (seen : Int32) (m p : Nat) (hm : m ≤ 3) (hp9 : p < m) (S : (Nat → Nat) × Int32 × Int32) (hS : DX m S I A) :
    ∃ (I' : Nat → Int32) (A' : Nat → Nat → Int32), rs sc 2 0 [some (.ref 24), some (.ref 3), some (.int seen), some (.int (nI p)), none, none] [] [] (hp I A Z) = some (none, hp I' A' Z) ∧ AgD I' I ∧ AgP 25 A' A ∧ DX m (dst s seen p S) I' A' := by
  obtain ⟨s1, s2, s3⟩ := id hS
  obtain ⟨c1, c2⟩ := s1 p hp9
  obtain ⟨v1, v2⟩ := dv_ok S.2.2
  have hdw : dw S.2.2 < 4 := Nat.mod_lt _ (by decide)
  have e1 : nI (dv S.2.2) / nI 65536 = nI (dv S.2.2 / 65536) := pk_div (by omega) (by decide) (by decide)
  have e2 : nI (dv S.2.2 / 65536) - nI (dv S.2.2 / 65536) / nI 4 * nI 4 = nI (dw S.2.2) := pk_rem (by omega) (by decide) (by decide)
  have ed : Int64.toInt32 ((lN 1103515245 * Int32.toInt64 S.2.2 + lN 12345) &&& lN 2147483647) = nI (dv S.2.2) := v2
  have hX2 : XH s d (upd I 18 (nI (dv S.2.2))) A := ⟨by rw [pk_un (by decide)]; exact hX.1, by rw [pk_un (by decide)]; exact hX.2.1, hX.2.2⟩
  have hfb := floorBeside_ok sc (upd I 18 (nI (dv S.2.2))) A Z s d hX2 (S.1 p) (dw S.2.2) c1 hdw
  have hle := fb_le s (S.1 p) (dw S.2.2)
  by_cases h12 : fb s (S.1 p) (dw S.2.2) < 12
  · rw [cI_lt h12] at hfb
    refine ⟨upd (upd I 18 (nI (dv S.2.2))) 17 (I 17 + tb seen (fb s (S.1 p) (dw S.2.2))), ua A 25 p (nI (fb s (S.1 p) (dw S.2.2))), ?_, fun j a b => by rw [pk_un a, pk_un b], fun q hq => by rw [ua_set, sa_n hq], ?_⟩
    · simp (disch := omega) only [s_X0_goByDraw_0_0, s_X0_goByDraw_0_1, s_X0_goByDraw_0_4, s_X0_goByDraw_0_5, s_X0_goByDraw_0_8, s_X0_goByDraw_0_9, s_X0_goByDraw_0_10, s_X0_goByDraw_0_13, s_X0_goByDraw_0_14, s_X0_goByDraw_0_17, s_X0_goByDraw_0_18, s_X0_goByDraw_0_19, s_X0_goByDraw_0_22, s_X0_goByDraw_0_23, s_X0_goByDraw_0_26, s_X0_goByDraw_0_28, s_X0_goByDraw_0_29, s_X0_goByDraw_0_30, s_X0_goByDraw_0_31, s_X0_goByDraw_0_33, s_X0_goByDraw_0_34, s_X0_goByDraw_0_35, s_X0_goByDraw_0_38, s_X0_goByDraw_0_39, s_X0_goByDraw_0_42, s_X0_goByDraw_0_44, s_X0_goByDraw_0_47, s_X0_goByDraw_0_49, s_X0_goByDraw_0_51, s_X0_goByDraw_0_52, s_X0_goByDraw_0_55, s_X0_goByDraw_0_56, s_X0_goByDraw_0_59, s_X0_goByDraw_0_60, s_X0_goByDraw_0_62, s_X0_goByDraw_0_65, s_X0_goByDraw_0_66, s_X0_goByDraw_0_67, s_X0_goByDraw_0_70, s_X0_goByDraw_0_71, s_X0_goByDraw_0_73, s_X0_goByDraw_0_76, s_X0_goByDraw_0_77, s_X0_goByDraw_0_80, ↓i_lt_t, ↓i_lt_f, ↓i_le_t, ↓i_le_f, ↓i_eq_t, ↓i_eq_f, ↓i_m1a, ↓i_m1b, ↓i_m1c, ↓i_m1d, ↓i_m1e, ↓i_m1f, c_lt, c_le, c_eq, if_pos, if_neg, bnd_some, Option.toList, List.nil_append, List.cons_append, c_add, m1_lt, m1_eq1, m1_eq2, m1_le, ret_1, ret_0, if_true, if_false, eq_self_iff, s3, ed, pk_us, pk_un, e1, e2, at_25, c2, hfb, put_25, bit_in]
    · unfold dst
      rw [if_pos h12]
      refine ⟨fun j hj => ?_, by rw [pk_us, s2], by rw [pk_un (by decide), pk_us]; exact v2.symm⟩
      rw [ua_set, sa_s]
      dsimp only
      by_cases e : j = p
      · subst e; rw [if_pos rfl, pk_us]; exact ⟨h12, rfl⟩
      · rw [if_neg e, pk_un e]; exact s1 j hj
  · rw [cI_12 (by omega)] at hfb
    refine ⟨upd I 18 (nI (dv S.2.2)), A, ?_, fun j a b => by rw [pk_un b], fun q hq => rfl, ?_⟩
    · simp (disch := omega) only [s_X0_goByDraw_0_0, s_X0_goByDraw_0_1, s_X0_goByDraw_0_4, s_X0_goByDraw_0_5, s_X0_goByDraw_0_8, s_X0_goByDraw_0_9, s_X0_goByDraw_0_10, s_X0_goByDraw_0_13, s_X0_goByDraw_0_14, s_X0_goByDraw_0_17, s_X0_goByDraw_0_18, s_X0_goByDraw_0_19, s_X0_goByDraw_0_22, s_X0_goByDraw_0_23, s_X0_goByDraw_0_26, s_X0_goByDraw_0_28, s_X0_goByDraw_0_29, s_X0_goByDraw_0_30, s_X0_goByDraw_0_31, s_X0_goByDraw_0_33, s_X0_goByDraw_0_34, s_X0_goByDraw_0_35, s_X0_goByDraw_0_38, s_X0_goByDraw_0_39, s_X0_goByDraw_0_42, s_X0_goByDraw_0_44, s_X0_goByDraw_0_47, s_X0_goByDraw_0_49, s_X0_goByDraw_0_51, s_X0_goByDraw_0_52, s_X0_goByDraw_0_55, s_X0_goByDraw_0_56, s_X0_goByDraw_0_59, s_X0_goByDraw_0_60, s_X0_goByDraw_0_62, s_X0_goByDraw_0_65, s_X0_goByDraw_0_66, s_X0_goByDraw_0_67, s_X0_goByDraw_0_70, s_X0_goByDraw_0_71, s_X0_goByDraw_0_73, s_X0_goByDraw_0_76, s_X0_goByDraw_0_77, s_X0_goByDraw_0_80, ↓i_lt_t, ↓i_lt_f, ↓i_le_t, ↓i_le_f, ↓i_eq_t, ↓i_eq_f, ↓i_m1a, ↓i_m1b, ↓i_m1c, ↓i_m1d, ↓i_m1e, ↓i_m1f, c_lt, c_le, c_eq, if_pos, if_neg, bnd_some, Option.toList, List.nil_append, List.cons_append, c_add, m1_lt, m1_eq1, m1_eq2, m1_le, ret_1, ret_0, if_true, if_false, eq_self_iff, s3, ed, pk_us, pk_un, e1, e2, at_25, c2, hfb]
    · unfold dst
      rw [if_neg h12]
      exact ⟨s1, by rw [pk_un (by decide)]; exact s2, by rw [pk_us]; exact v2.symm⟩
theorem XH.agd {s : Nat → Nat} {d : Nat} {I I0 : Nat → Int32} {A A0 : Nat → Nat → Int32} (h : XH s d I0 A0) (ha : AgD I I0) (hb : AgP 25 A A0) : XH s d I A :=
  ⟨by rw [ha 4 (by decide) (by decide)]; exact h.1, by rw [ha 5 (by decide) (by decide)]; exact h.2.1, h.2.2.1, h.2.2.2.1, fun c hc => by rw [hb 4 (by decide)]; exact h.2.2.2.2 c hc⟩
theorem dayIn_loop (sc : Nat × (Nat → Int32)) (Z : Int64) (s : Nat → Nat) (d : Nat) (I0 : Nat → Int32) (A0 : Nat → Nat → Int32) (hX : XH s d I0 A0) (seen : Int32) (m : Nat) (hm : m ≤ 3) (h7 : I0 7 = nI m) (x4 x5 : Int32) (S : (Nat → Nat) × Int32 × Int32) (x6 : Int32) :
    ∀ (f p : Nat) (I : Nat → Int32) (A : Nat → Nat → Int32), p + f = m → AgD I I0 → AgP 25 A A0 → DX m (din s seen p S) I A →
      ∃ (I' : Nat → Int32) (A' : Nat → Nat → Int32), rs sc 1 35 [some (.ref 24), some (.ref 3), some (.ref 5), some (.int seen), some (.int x4), some (.int x5), some (.int x6), some (.int (nI p))] [] [] (hp I A Z) = rs sc 1 58 [some (.ref 24), some (.ref 3), some (.ref 5), some (.int seen), some (.int x4), some (.int x5), some (.int x6), some (.int (nI m))] [] [] (hp I' A' Z) ∧ AgD I' I0 ∧ AgP 25 A' A0 ∧ DX m (din s seen m S) I' A' := by
  intro f
  induction f with
  | zero =>
    intro p I A hp9 h1 h2 h3
    have e : p = m := by omega
    subst e
    have h7' : I 7 = nI p := by rw [h1 7 (by decide) (by decide)]; exact h7
    refine ⟨I, A, ?_, h1, h2, h3⟩
    rw [s_X0_reckon_0_35]
    simp (disch := omega) only [s_X0_reckon_0_0, s_X0_reckon_0_1, s_X0_reckon_0_4, s_X0_reckon_0_5, s_X0_reckon_0_8, s_X0_reckon_0_11, s_X0_reckon_0_12, s_X0_reckon_0_13, s_X0_reckon_0_16, s_X0_reckon_0_17, s_X0_reckon_0_19, s_X0_reckon_0_22, s_X0_reckon_0_23, s_X0_reckon_0_25, s_X0_reckon_0_27, s_X0_reckon_0_29, s_X0_reckon_0_32, s_X0_reckon_0_33, s_X0_reckon_0_37, s_X0_reckon_0_38, s_X0_reckon_0_41, s_X0_reckon_0_44, s_X0_reckon_0_45, s_X0_reckon_0_46, s_X0_reckon_0_47, s_X0_reckon_0_49, s_X0_reckon_0_52, s_X0_reckon_0_55, s_X0_reckon_0_61, s_X0_reckon_0_64, ↓i_lt_t, ↓i_lt_f, ↓i_le_t, ↓i_le_f, ↓i_eq_t, ↓i_eq_f, ↓i_m1a, ↓i_m1b, ↓i_m1c, ↓i_m1d, ↓i_m1e, ↓i_m1f, c_lt, c_le, c_eq, if_pos, if_neg, bnd_some, Option.toList, List.nil_append, List.cons_append, c_add, m1_lt, m1_eq1, m1_eq2, m1_le, ret_1, ret_0, if_true, if_false, eq_self_iff, h7']
  | succ f ih =>
    intro p I A hp9 h1 h2 h3
    have h7' : I 7 = nI m := by rw [h1 7 (by decide) (by decide)]; exact h7
    obtain ⟨I1, A1, r1, r2, r3, r4⟩ := goBy_ok sc I A Z s d (hX.agd h1 h2) seen m p hm (by omega) _ h3
    obtain ⟨I', A', q1, q2⟩ := ih (p + 1) I1 A1 (by omega) (r2.tr h1) (r3.tr h2) r4
    refine ⟨I', A', ?_, q2⟩
    rw [s_X0_reckon_0_35]
    simp (disch := omega) only [s_X0_reckon_0_0, s_X0_reckon_0_1, s_X0_reckon_0_4, s_X0_reckon_0_5, s_X0_reckon_0_8, s_X0_reckon_0_11, s_X0_reckon_0_12, s_X0_reckon_0_13, s_X0_reckon_0_16, s_X0_reckon_0_17, s_X0_reckon_0_19, s_X0_reckon_0_22, s_X0_reckon_0_23, s_X0_reckon_0_25, s_X0_reckon_0_27, s_X0_reckon_0_29, s_X0_reckon_0_32, s_X0_reckon_0_33, s_X0_reckon_0_37, s_X0_reckon_0_38, s_X0_reckon_0_41, s_X0_reckon_0_44, s_X0_reckon_0_45, s_X0_reckon_0_46, s_X0_reckon_0_47, s_X0_reckon_0_49, s_X0_reckon_0_52, s_X0_reckon_0_55, s_X0_reckon_0_61, s_X0_reckon_0_64, ↓i_lt_t, ↓i_lt_f, ↓i_le_t, ↓i_le_f, ↓i_eq_t, ↓i_eq_f, ↓i_m1a, ↓i_m1b, ↓i_m1c, ↓i_m1d, ↓i_m1e, ↓i_m1f, c_lt, c_le, c_eq, if_pos, if_neg, bnd_some, Option.toList, List.nil_append, List.cons_append, c_add, m1_lt, m1_eq1, m1_eq2, m1_le, ret_1, ret_0, if_true, if_false, eq_self_iff, h7', r1]
    exact q1
theorem dayOut_loop (sc : Nat × (Nat → Int32)) (Z : Int64) (s : Nat → Nat) (d : Nat) (I0 : Nat → Int32) (A0 : Nat → Nat → Int32) (hX : XH s d I0 A0) (seen : Int32) (m : Nat) (hm : m ≤ 3) (h7 : I0 7 = nI m) (ts : Nat) (hts : ts ≤ 60) (x5 : Int32) (S : (Nat → Nat) × Int32 × Int32) :
    ∀ (f t : Nat) (I : Nat → Int32) (A : Nat → Nat → Int32) (l7 : Option Value), t + f = ts → AgD I I0 → AgP 25 A A0 → DX m (dou s seen m t S) I A →
      ∃ (I' : Nat → Int32) (A' : Nat → Nat → Int32), rs sc 1 25 [some (.ref 24), some (.ref 3), some (.ref 5), some (.int seen), some (.int (nI ts)), some (.int x5), some (.int (nI t)), l7] [] [] (hp I A Z) = some (none, hp I' A' Z) ∧ AgD I' I0 ∧ AgP 25 A' A0 ∧ DX m (dou s seen m ts S) I' A' := by
  intro f
  induction f with
  | zero =>
    intro t I A l7 ht h1 h2 h3
    have e : t = ts := by omega
    subst e
    refine ⟨I, A, ?_, h1, h2, h3⟩
    simp (disch := omega) only [s_X0_reckon_0_0, s_X0_reckon_0_1, s_X0_reckon_0_4, s_X0_reckon_0_5, s_X0_reckon_0_8, s_X0_reckon_0_11, s_X0_reckon_0_12, s_X0_reckon_0_13, s_X0_reckon_0_16, s_X0_reckon_0_17, s_X0_reckon_0_19, s_X0_reckon_0_22, s_X0_reckon_0_23, s_X0_reckon_0_25, s_X0_reckon_0_27, s_X0_reckon_0_29, s_X0_reckon_0_32, s_X0_reckon_0_33, s_X0_reckon_0_35, s_X0_reckon_0_37, s_X0_reckon_0_38, s_X0_reckon_0_41, s_X0_reckon_0_44, s_X0_reckon_0_45, s_X0_reckon_0_46, s_X0_reckon_0_47, s_X0_reckon_0_49, s_X0_reckon_0_52, s_X0_reckon_0_55, s_X0_reckon_0_58, s_X0_reckon_0_61, s_X0_reckon_0_64, ↓i_lt_t, ↓i_lt_f, ↓i_le_t, ↓i_le_f, ↓i_eq_t, ↓i_eq_f, ↓i_m1a, ↓i_m1b, ↓i_m1c, ↓i_m1d, ↓i_m1e, ↓i_m1f, c_lt, c_le, c_eq, if_pos, if_neg, bnd_some, Option.toList, List.nil_append, List.cons_append, c_add, m1_lt, m1_eq1, m1_eq2, m1_le, ret_1, ret_0, if_true, if_false, eq_self_iff]
  | succ f ih =>
    intro t I A l7 ht h1 h2 h3
    obtain ⟨I1, A1, r1, r2, r3, r4⟩ := dayIn_loop sc Z s d I0 A0 hX seen m hm h7 (nI ts) x5 (dou s seen m t S) (nI t) m 0 I A (by omega) h1 h2 h3
    obtain ⟨I', A', q1, q2⟩ := ih (t + 1) I1 A1 (some (.int (nI m))) (by omega) r2 r3 r4
    refine ⟨I', A', ?_, q2⟩
    rw [s_X0_reckon_0_25]
    simp (disch := omega) only [s_X0_reckon_0_0, s_X0_reckon_0_1, s_X0_reckon_0_4, s_X0_reckon_0_5, s_X0_reckon_0_8, s_X0_reckon_0_11, s_X0_reckon_0_12, s_X0_reckon_0_13, s_X0_reckon_0_16, s_X0_reckon_0_17, s_X0_reckon_0_19, s_X0_reckon_0_22, s_X0_reckon_0_23, s_X0_reckon_0_27, s_X0_reckon_0_29, s_X0_reckon_0_32, s_X0_reckon_0_33, s_X0_reckon_0_37, s_X0_reckon_0_38, s_X0_reckon_0_41, s_X0_reckon_0_44, s_X0_reckon_0_45, s_X0_reckon_0_46, s_X0_reckon_0_47, s_X0_reckon_0_49, s_X0_reckon_0_52, s_X0_reckon_0_55, s_X0_reckon_0_58, s_X0_reckon_0_61, s_X0_reckon_0_64, ↓i_lt_t, ↓i_lt_f, ↓i_le_t, ↓i_le_f, ↓i_eq_t, ↓i_eq_f, ↓i_m1a, ↓i_m1b, ↓i_m1c, ↓i_m1d, ↓i_m1e, ↓i_m1f, c_lt, c_le, c_eq, if_pos, if_neg, bnd_some, Option.toList, List.nil_append, List.cons_append, c_add, m1_lt, m1_eq1, m1_eq2, m1_le, ret_1, ret_0, if_true, if_false, eq_self_iff]
    rw [r1]
    simp (disch := omega) only [s_X0_reckon_0_0, s_X0_reckon_0_1, s_X0_reckon_0_4, s_X0_reckon_0_5, s_X0_reckon_0_8, s_X0_reckon_0_11, s_X0_reckon_0_12, s_X0_reckon_0_13, s_X0_reckon_0_16, s_X0_reckon_0_17, s_X0_reckon_0_19, s_X0_reckon_0_22, s_X0_reckon_0_23, s_X0_reckon_0_27, s_X0_reckon_0_29, s_X0_reckon_0_32, s_X0_reckon_0_33, s_X0_reckon_0_37, s_X0_reckon_0_38, s_X0_reckon_0_41, s_X0_reckon_0_44, s_X0_reckon_0_45, s_X0_reckon_0_46, s_X0_reckon_0_47, s_X0_reckon_0_49, s_X0_reckon_0_52, s_X0_reckon_0_55, s_X0_reckon_0_58, s_X0_reckon_0_61, s_X0_reckon_0_64, ↓i_lt_t, ↓i_lt_f, ↓i_le_t, ↓i_le_f, ↓i_eq_t, ↓i_eq_f, ↓i_m1a, ↓i_m1b, ↓i_m1c, ↓i_m1d, ↓i_m1e, ↓i_m1f, c_lt, c_le, c_eq, if_pos, if_neg, bnd_some, Option.toList, List.nil_append, List.cons_append, c_add, m1_lt, m1_eq1, m1_eq2, m1_le, ret_1, ret_0, if_true, if_false, eq_self_iff]
    exact q1
theorem daysX_ok (sc : Nat × (Nat → Int32)) (I : Nat → Int32) (A : Nat → Nat → Int32) (Z : Int64) (s : Nat → Nat) (d : Nat) (hX : XH s d I A) (seen : Int32) (m : Nat) (pc : Nat → Nat) (pe : Nat → Int32) (hP : XP m pc pe I A) (ts : Nat) (hts : ts ≤ 60) (x : Int32) :
    ∃ (I' : Nat → Int32) (A' : Nat → Nat → Int32), rs sc 1 0 [some (.ref 24), some (.ref 3), some (.ref 5), some (.int seen), some (.int (nI ts)), some (.int x), none, none] [] [] (hp I A Z) = some (none, hp I' A' Z) ∧ AgD I' I ∧ AgP 25 A' A ∧ DX m (dou s seen m ts (pc, nI 0, x)) I' A' := by
  obtain ⟨p1, p2, p3⟩ := hP
  obtain ⟨g, c1, c2⟩ := cp_8_25 sc I A Z
  have ag : AgD (upd (upd I 17 (nI 0)) 18 x) I := fun j a b => by rw [pk_un b, pk_un a]
  obtain ⟨I', A', q1, q2, q3, q4⟩ := dayOut_loop sc Z s d I A hX seen m p2 p1 ts hts x (pc, nI 0, x) ts 0 (upd (upd I 17 (nI 0)) 18 x) (setA A 25 g) none (by omega) ag (fun q hq => sa_n hq)
    ⟨fun j hj => ⟨(p3 j hj).1, by rw [sa_s, c2 j (by omega)]; exact (p3 j hj).2.1⟩, by rw [pk_un (by decide), pk_us]; rfl, by rw [pk_us]; rfl⟩
  refine ⟨I', A', ?_, q2, q3, q4⟩
  simp (disch := omega) only [s_X0_reckon_0_0, s_X0_reckon_0_1, s_X0_reckon_0_4, s_X0_reckon_0_5, s_X0_reckon_0_8, s_X0_reckon_0_11, s_X0_reckon_0_12, s_X0_reckon_0_13, s_X0_reckon_0_16, s_X0_reckon_0_17, s_X0_reckon_0_19, s_X0_reckon_0_22, s_X0_reckon_0_23, s_X0_reckon_0_27, s_X0_reckon_0_29, s_X0_reckon_0_32, s_X0_reckon_0_33, s_X0_reckon_0_35, s_X0_reckon_0_37, s_X0_reckon_0_38, s_X0_reckon_0_41, s_X0_reckon_0_44, s_X0_reckon_0_45, s_X0_reckon_0_46, s_X0_reckon_0_47, s_X0_reckon_0_49, s_X0_reckon_0_52, s_X0_reckon_0_55, s_X0_reckon_0_58, s_X0_reckon_0_61, s_X0_reckon_0_64, ↓i_lt_t, ↓i_lt_f, ↓i_le_t, ↓i_le_f, ↓i_eq_t, ↓i_eq_f, ↓i_m1a, ↓i_m1b, ↓i_m1c, ↓i_m1d, ↓i_m1e, ↓i_m1f, c_lt, c_le, c_eq, if_pos, if_neg, bnd_some, Option.toList, List.nil_append, List.cons_append, c_add, m1_lt, m1_eq1, m1_eq2, m1_le, ret_1, ret_0, if_true, if_false, eq_self_iff, c1]
  exact q1
/-- the reference's days so far (the sum is a local of it) -/
def DM (m : Nat) (S : (Nat → Nat) × Int32 × Int32) (I : Nat → Int32) (A : Nat → Nat → Int32) : Prop := (∀ j, j < m → S.1 j < 12 ∧ A 36 j = nI (S.1 j)) ∧ I 30 = S.2.2
def Ag30 (I I0 : Nat → Int32) : Prop := ∀ j, j ≠ 30 → I j = I0 j
theorem Ag30.tr {I J K : Nat → Int32} (h1 : Ag30 I J) (h2 : Ag30 J K) : Ag30 I K := fun j a => (h1 j a).trans (h2 j a)
theorem draw_ok (sc : Nat × (Nat → Int32)) (I : Nat → Int32) (A : Nat → Nat → Int32) (Z : Int64) : rs sc 129 0 [some (.ref 26), some (.int (nI 4))] [] [] (hp I A Z) = some (some (.int (nI (dw (I 30)))), hp (upd I 30 (dr (I 30))) A Z) := by
  obtain ⟨v1, v2⟩ := dv_ok (I 30)
  have e1 : nI (dv (I 30)) / nI 65536 = nI (dv (I 30) / 65536) := pk_div (by omega) (by decide) (by decide)
  have e2 : nI (dv (I 30) / 65536) - nI (dv (I 30) / 65536) / nI 4 * nI 4 = nI (dw (I 30)) := pk_rem (by omega) (by decide) (by decide)
  have ed : Int64.toInt32 ((lN 1103515245 * Int32.toInt64 (I 30) + lN 12345) &&& lN 2147483647) = nI (dv (I 30)) := v2
  have h4 : ¬ nI 4 = nI 0 := by decide
  rw [v2]
  simp (disch := first | exact h4 | omega) only [s_X8_draw_0_0, s_X8_draw_0_1, s_X8_draw_0_4, s_X8_draw_0_5, s_X8_draw_0_8, s_X8_draw_0_9, s_X8_draw_0_10, s_X8_draw_0_13, s_X8_draw_0_14, s_X8_draw_0_17, s_X8_draw_0_18, s_X8_draw_0_19, s_X8_draw_0_22, s_X8_draw_0_23, s_X8_draw_0_26, s_X8_draw_0_28, s_X8_draw_0_29, s_X8_draw_0_30, s_X8_draw_0_31, ↓i_lt_t, ↓i_lt_f, ↓i_le_t, ↓i_le_f, ↓i_eq_t, ↓i_eq_f, ↓i_m1a, ↓i_m1b, ↓i_m1c, ↓i_m1d, ↓i_m1e, ↓i_m1f, c_lt, c_le, c_eq, if_pos, if_neg, bnd_some, Option.toList, List.nil_append, List.cons_append, c_add, m1_lt, m1_eq1, m1_eq2, m1_le, ret_1, ret_0, if_true, if_false, eq_self_iff, ed, pk_us, pk_un, e1, e2]
theorem mIn_loop (sc : Nat × (Nat → Int32)) (Z : Int64) (s : Nat → Nat) (I0 : Nat → Int32) (A0 : Nat → Nat → Int32) (hs : ∀ c, c < 12 → A0 28 c = nI (s c) ∧ s c < 7) (seen : Int32) (m : Nat) (hm : m ≤ 3) (h27 : I0 27 = nI m) (x1 x2 x3 x6 : Int32) (S : (Nat → Nat) × Int32 × Int32) :
    ∀ (f p : Nat) (I : Nat → Int32) (A : Nat → Nat → Int32) (l8 : Option Value), p + f = m → Ag30 I I0 → AgP 36 A A0 → DM m (din s seen p S) I A →
      ∃ (I' : Nat → Int32) (A' : Nat → Nat → Int32) (l8' : Option Value), rs sc 130 101 [some (.ref 26), some (.int x1), some (.int x2), some (.int x3), some (.int seen), some (.int (din s seen p S).2.1), some (.int x6), some (.int (nI p)), l8] [] [] (hp I A Z) = rs sc 130 161 [some (.ref 26), some (.int x1), some (.int x2), some (.int x3), some (.int seen), some (.int (din s seen m S).2.1), some (.int x6), some (.int (nI m)), l8'] [] [] (hp I' A' Z) ∧ Ag30 I' I0 ∧ AgP 36 A' A0 ∧ DM m (din s seen m S) I' A' := by
  intro f
  induction f with
  | zero =>
    intro p I A l8 hp9 h1 h2 h3
    have e : p = m := by omega
    subst e
    have h7' : I 27 = nI p := by rw [h1 27 (by decide)]; exact h27
    refine ⟨I, A, l8, ?_, h1, h2, h3⟩
    rw [s_X8_days_0_101]
    simp (disch := omega) only [s_X8_days_0_0, s_X8_days_0_1, s_X8_days_0_2, s_X8_days_0_3, s_X8_days_0_6, s_X8_days_0_9, s_X8_days_0_12, s_X8_days_0_13, s_X8_days_0_16, s_X8_days_0_17, s_X8_days_0_18, s_X8_days_0_19, s_X8_days_0_22, s_X8_days_0_25, s_X8_days_0_28, s_X8_days_0_30, s_X8_days_0_31, s_X8_days_0_32, s_X8_days_0_35, s_X8_days_0_38, s_X8_days_0_40, s_X8_days_0_41, s_X8_days_0_42, s_X8_days_0_45, s_X8_days_0_47, s_X8_days_0_48, s_X8_days_0_49, s_X8_days_0_52, s_X8_days_0_53, s_X8_days_0_55, s_X8_days_0_57, s_X8_days_0_58, s_X8_days_0_61, s_X8_days_0_64, s_X8_days_0_65, s_X8_days_0_68, s_X8_days_0_70, s_X8_days_0_71, s_X8_days_0_74, s_X8_days_0_75, s_X8_days_0_77, s_X8_days_0_78, s_X8_days_0_79, s_X8_days_0_80, s_X8_days_0_83, s_X8_days_0_86, s_X8_days_0_87, s_X8_days_0_89, s_X8_days_0_90, s_X8_days_0_92, s_X8_days_0_94, s_X8_days_0_95, s_X8_days_0_98, s_X8_days_0_99, s_X8_days_0_103, s_X8_days_0_104, s_X8_days_0_107, s_X8_days_0_110, s_X8_days_0_111, s_X8_days_0_112, s_X8_days_0_115, s_X8_days_0_117, s_X8_days_0_118, s_X8_days_0_119, s_X8_days_0_120, s_X8_days_0_123, s_X8_days_0_126, s_X8_days_0_128, s_X8_days_0_130, s_X8_days_0_131, s_X8_days_0_134, s_X8_days_0_135, s_X8_days_0_138, s_X8_days_0_140, s_X8_days_0_142, s_X8_days_0_143, s_X8_days_0_145, s_X8_days_0_147, s_X8_days_0_149, s_X8_days_0_150, s_X8_days_0_151, s_X8_days_0_152, s_X8_days_0_153, s_X8_days_0_155, s_X8_days_0_158, s_X8_days_0_164, s_X8_days_0_167, s_X8_days_0_168, s_X8_days_0_171, s_X8_days_0_173, s_X8_days_0_176, s_X8_days_0_177, s_X8_days_0_178, s_X8_days_0_181, s_X8_days_0_182, s_X8_days_0_185, s_X8_days_0_188, s_X8_days_0_189, s_X8_days_0_192, s_X8_days_0_193, s_X8_days_0_196, s_X8_days_0_197, s_X8_days_0_198, s_X8_days_0_201, s_X8_days_0_202, s_X8_days_0_205, ↓i_lt_t, ↓i_lt_f, ↓i_le_t, ↓i_le_f, ↓i_eq_t, ↓i_eq_f, ↓i_m1a, ↓i_m1b, ↓i_m1c, ↓i_m1d, ↓i_m1e, ↓i_m1f, c_lt, c_le, c_eq, if_pos, if_neg, bnd_some, Option.toList, List.nil_append, List.cons_append, c_add, m1_lt, m1_eq1, m1_eq2, m1_le, ret_1, ret_0, if_true, if_false, eq_self_iff, h7']
  | succ f ih =>
    intro p I A l8 hp9 h1 h2 h3
    have h7' : I 27 = nI m := by rw [h1 27 (by decide)]; exact h27
    obtain ⟨s1, s3⟩ := id h3
    have hdr := draw_ok sc I A Z
    rw [s3] at hdr
    generalize hSS : din s seen p S = SS at *
    obtain ⟨c1, c2⟩ := s1 p (by omega)
    have hdw : dw SS.2.2 < 4 := Nat.mod_lt _ (by decide)
    have hst := mStepTo sc (upd I 30 (dr SS.2.2)) A Z s (fun c hc => by rw [h2 28 (by decide)]; exact hs c hc) (SS.1 p) (dw SS.2.2) c1 hdw
    have hle := fb_le s (SS.1 p) (dw SS.2.2)
    have ag1 : Ag30 (upd I 30 (dr SS.2.2)) I0 := fun j a => by rw [pk_un a]; exact h1 j a
    by_cases h12 : fb s (SS.1 p) (dw SS.2.2) < 12
    · have ed : din s seen (p + 1) S = (fun j => if j = p then fb s (SS.1 p) (dw SS.2.2) else SS.1 j, SS.2.1 + tb seen (fb s (SS.1 p) (dw SS.2.2)), dr SS.2.2) := by rw [din, hSS, dst, if_pos h12]
      rw [cI_lt h12] at hst
      obtain ⟨I', A', l8', q1, q2⟩ := ih (p + 1) (upd I 30 (dr SS.2.2)) (ua A 36 p (nI (fb s (SS.1 p) (dw SS.2.2)))) (some (.int (nI (fb s (SS.1 p) (dw SS.2.2))))) (by omega) ag1 (fun q hq => by rw [ua_set, sa_n hq]; exact h2 q hq) (by
        rw [ed]
        refine ⟨fun j hj => ?_, by rw [pk_us]⟩
        rw [ua_set, sa_s]
        dsimp only
        by_cases e : j = p
        · subst e; rw [if_pos rfl, pk_us]; exact ⟨h12, rfl⟩
        · rw [if_neg e, pk_un e]; exact s1 j hj)
      rw [ed] at q1
      refine ⟨I', A', l8', ?_, q2⟩
      rw [s_X8_days_0_101]
      simp (disch := omega) only [s_X8_days_0_0, s_X8_days_0_1, s_X8_days_0_2, s_X8_days_0_3, s_X8_days_0_6, s_X8_days_0_9, s_X8_days_0_12, s_X8_days_0_13, s_X8_days_0_16, s_X8_days_0_17, s_X8_days_0_18, s_X8_days_0_19, s_X8_days_0_22, s_X8_days_0_25, s_X8_days_0_28, s_X8_days_0_30, s_X8_days_0_31, s_X8_days_0_32, s_X8_days_0_35, s_X8_days_0_38, s_X8_days_0_40, s_X8_days_0_41, s_X8_days_0_42, s_X8_days_0_45, s_X8_days_0_47, s_X8_days_0_48, s_X8_days_0_49, s_X8_days_0_52, s_X8_days_0_53, s_X8_days_0_55, s_X8_days_0_57, s_X8_days_0_58, s_X8_days_0_61, s_X8_days_0_64, s_X8_days_0_65, s_X8_days_0_68, s_X8_days_0_70, s_X8_days_0_71, s_X8_days_0_74, s_X8_days_0_75, s_X8_days_0_77, s_X8_days_0_78, s_X8_days_0_79, s_X8_days_0_80, s_X8_days_0_83, s_X8_days_0_86, s_X8_days_0_87, s_X8_days_0_89, s_X8_days_0_90, s_X8_days_0_92, s_X8_days_0_94, s_X8_days_0_95, s_X8_days_0_98, s_X8_days_0_99, s_X8_days_0_103, s_X8_days_0_104, s_X8_days_0_107, s_X8_days_0_110, s_X8_days_0_111, s_X8_days_0_112, s_X8_days_0_115, s_X8_days_0_117, s_X8_days_0_118, s_X8_days_0_119, s_X8_days_0_120, s_X8_days_0_123, s_X8_days_0_126, s_X8_days_0_128, s_X8_days_0_130, s_X8_days_0_131, s_X8_days_0_134, s_X8_days_0_135, s_X8_days_0_138, s_X8_days_0_140, s_X8_days_0_142, s_X8_days_0_143, s_X8_days_0_145, s_X8_days_0_147, s_X8_days_0_149, s_X8_days_0_150, s_X8_days_0_151, s_X8_days_0_152, s_X8_days_0_153, s_X8_days_0_155, s_X8_days_0_158, s_X8_days_0_164, s_X8_days_0_167, s_X8_days_0_168, s_X8_days_0_171, s_X8_days_0_173, s_X8_days_0_176, s_X8_days_0_177, s_X8_days_0_178, s_X8_days_0_181, s_X8_days_0_182, s_X8_days_0_185, s_X8_days_0_188, s_X8_days_0_189, s_X8_days_0_192, s_X8_days_0_193, s_X8_days_0_196, s_X8_days_0_197, s_X8_days_0_198, s_X8_days_0_201, s_X8_days_0_202, s_X8_days_0_205, ↓i_lt_t, ↓i_lt_f, ↓i_le_t, ↓i_le_f, ↓i_eq_t, ↓i_eq_f, ↓i_m1a, ↓i_m1b, ↓i_m1c, ↓i_m1d, ↓i_m1e, ↓i_m1f, c_lt, c_le, c_eq, if_pos, if_neg, bnd_some, Option.toList, List.nil_append, List.cons_append, c_add, m1_lt, m1_eq1, m1_eq2, m1_le, ret_1, ret_0, if_true, if_false, eq_self_iff, h7', c2, hdr, hst]
      exact q1
    · have ed : din s seen (p + 1) S = (SS.1, SS.2.1, dr SS.2.2) := by rw [din, hSS, dst, if_neg h12]
      rw [cI_12 (by omega)] at hst
      obtain ⟨I', A', l8', q1, q2⟩ := ih (p + 1) (upd I 30 (dr SS.2.2)) A (some (.int (-1))) (by omega) ag1 h2 (by
        rw [ed]
        exact ⟨s1, by rw [pk_us]⟩)
      rw [ed] at q1
      refine ⟨I', A', l8', ?_, q2⟩
      rw [s_X8_days_0_101]
      simp (disch := omega) only [s_X8_days_0_0, s_X8_days_0_1, s_X8_days_0_2, s_X8_days_0_3, s_X8_days_0_6, s_X8_days_0_9, s_X8_days_0_12, s_X8_days_0_13, s_X8_days_0_16, s_X8_days_0_17, s_X8_days_0_18, s_X8_days_0_19, s_X8_days_0_22, s_X8_days_0_25, s_X8_days_0_28, s_X8_days_0_30, s_X8_days_0_31, s_X8_days_0_32, s_X8_days_0_35, s_X8_days_0_38, s_X8_days_0_40, s_X8_days_0_41, s_X8_days_0_42, s_X8_days_0_45, s_X8_days_0_47, s_X8_days_0_48, s_X8_days_0_49, s_X8_days_0_52, s_X8_days_0_53, s_X8_days_0_55, s_X8_days_0_57, s_X8_days_0_58, s_X8_days_0_61, s_X8_days_0_64, s_X8_days_0_65, s_X8_days_0_68, s_X8_days_0_70, s_X8_days_0_71, s_X8_days_0_74, s_X8_days_0_75, s_X8_days_0_77, s_X8_days_0_78, s_X8_days_0_79, s_X8_days_0_80, s_X8_days_0_83, s_X8_days_0_86, s_X8_days_0_87, s_X8_days_0_89, s_X8_days_0_90, s_X8_days_0_92, s_X8_days_0_94, s_X8_days_0_95, s_X8_days_0_98, s_X8_days_0_99, s_X8_days_0_103, s_X8_days_0_104, s_X8_days_0_107, s_X8_days_0_110, s_X8_days_0_111, s_X8_days_0_112, s_X8_days_0_115, s_X8_days_0_117, s_X8_days_0_118, s_X8_days_0_119, s_X8_days_0_120, s_X8_days_0_123, s_X8_days_0_126, s_X8_days_0_128, s_X8_days_0_130, s_X8_days_0_131, s_X8_days_0_134, s_X8_days_0_135, s_X8_days_0_138, s_X8_days_0_140, s_X8_days_0_142, s_X8_days_0_143, s_X8_days_0_145, s_X8_days_0_147, s_X8_days_0_149, s_X8_days_0_150, s_X8_days_0_151, s_X8_days_0_152, s_X8_days_0_153, s_X8_days_0_155, s_X8_days_0_158, s_X8_days_0_164, s_X8_days_0_167, s_X8_days_0_168, s_X8_days_0_171, s_X8_days_0_173, s_X8_days_0_176, s_X8_days_0_177, s_X8_days_0_178, s_X8_days_0_181, s_X8_days_0_182, s_X8_days_0_185, s_X8_days_0_188, s_X8_days_0_189, s_X8_days_0_192, s_X8_days_0_193, s_X8_days_0_196, s_X8_days_0_197, s_X8_days_0_198, s_X8_days_0_201, s_X8_days_0_202, s_X8_days_0_205, ↓i_lt_t, ↓i_lt_f, ↓i_le_t, ↓i_le_f, ↓i_eq_t, ↓i_eq_f, ↓i_m1a, ↓i_m1b, ↓i_m1c, ↓i_m1d, ↓i_m1e, ↓i_m1f, c_lt, c_le, c_eq, if_pos, if_neg, bnd_some, Option.toList, List.nil_append, List.cons_append, c_add, m1_lt, m1_eq1, m1_eq2, m1_le, ret_1, ret_0, if_true, if_false, eq_self_iff, h7', c2, hdr, hst]
      exact q1
