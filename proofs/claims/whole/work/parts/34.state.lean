/-! THE STATE that both sides stand for; each side's picture of it -/
def Out (N : Nat) (x : Int32) : Prop := x < nI 0 ∨ (¬ x < nI 0 ∧ nI N ≤ x)
theorem ix3 (x : Int32) (N : Nat) (hN : N < 2147483648) : Out N x ∨ ∃ j, j < N ∧ x = nI j := by
  rcases pk_ix x (n := N) (by omega) with h | h | h
  · exact Or.inl (Or.inl h)
  · by_cases h0 : x < nI 0
    · exact Or.inl (Or.inl h0)
    · exact Or.inl (Or.inr ⟨h0, h⟩)
  · exact Or.inr h
theorem out_n {N : Nat} {x : Int32} (h : Out (N + 1) x) (hN : N + 1 < 2147483648) : ¬ (nI 0 ≤ x ∧ x ≤ nI N) := by
  rintro ⟨h1, h2⟩
  rcases h with h | h
  · exact absurd h1 (Int32.not_le.mpr h)
  · have h3 := Int32.le_trans h.2 h2
    have := (nI_leI (by omega) (by omega)).mp h3
    omega
theorem out_f {N : Nat} {x : Int32} (h : Out (N + 1) x) (hN : N + 1 < 2147483648) : (if lN 0 ≤ x.toInt64 ∧ x.toInt64 ≤ lN N then nI 1 else nI 0) = nI 0 := in_f x 0 N (by omega) (by omega) (out_n h hN)
theorem in_j {j N : Nat} (h : j ≤ N) (hN : N < 2147483648) : (if lN 0 ≤ (nI j).toInt64 ∧ (nI j).toInt64 ≤ lN N then nI 1 else nI 0) = nI 1 := in_t (nI j) 0 N (by omega) hN ((nI_leI (by omega) (by omega)).mpr (by omega)) ((nI_leI (by omega) hN).mpr h)
theorem in_none (x : Int64) : (if lN 0 ≤ x ∧ x ≤ (nI 0 - nI 1).toInt64 then nI 1 else nI 0) = nI 0 := if_neg (fun h => absurd (Int64.le_trans h.1 h.2) (by decide))
theorem out_ne {N j : Nat} {x : Int32} (h : Out N x) (hj : j < N) (hN : N < 2147483648) : (x = nI j) = False := by
  apply propext
  refine ⟨fun e => ?_, fun q => q.elim⟩
  subst e
  rcases h with h | h
  · have := (nI_ltI (by omega) (by omega)).mp h; omega
  · have := (nI_leI (by omega) (by omega)).mp h.2; omega
section
theorem has_out (sc : Nat × (Nat → Int32)) (I : Nat → Int32) (A : Nat → Nat → Int32) (Z : Int64) (hI : I 4 = nI 1) (x : Int32) (h : Out 12 x) : rs sc 5 0 [some (.ref 3), some (.int x)] [] [] (hp I A Z) = some (some (.int (nI 0)), hp I A Z) := by
  rcases h with h | h
  · exact has_lt sc I A Z hI x h
  · exact has_ge sc I A Z hI x h.1 h.2
theorem isWay_out (sc : Nat × (Nat → Int32)) (I : Nat → Int32) (A : Nat → Nat → Int32) (Z : Int64) (x : Int32) (h : Out 4 x) : rs sc 78 0 [some (.int x)] [] [] (hp I A Z) = some (some (.int (nI 0)), hp I A Z) := by
  rcases h with h | h
  · exact isWay_lt sc I A Z x h
  · exact isWay_ge sc I A Z x h.1 h.2
theorem hasClerk_out (sc : Nat × (Nat → Int32)) (I : Nat → Int32) (A : Nat → Nat → Int32) (Z : Int64) (n : Nat) (hI : I 6 = nI n) (x : Int32) (h : Out n x) : rs sc 29 0 [some (.ref 5), some (.int x)] [] [] (hp I A Z) = some (some (.int (nI 0)), hp I A Z) := by
  rcases h with h | h
  · exact hasClerk_lt sc I A Z x h
  · exact hasClerk_ge sc I A Z x n hI h.1 h.2
theorem hasPerson_out (sc : Nat × (Nat → Int32)) (I : Nat → Int32) (A : Nat → Nat → Int32) (Z : Int64) (n : Nat) (hI : I 7 = nI n) (x : Int32) (h : Out n x) : rs sc 30 0 [some (.ref 5), some (.int x)] [] [] (hp I A Z) = some (some (.int (nI 0)), hp I A Z) := by
  rcases h with h | h
  · exact hasPerson_lt sc I A Z x h
  · exact hasPerson_ge sc I A Z x n hI h.1 h.2
theorem mIsCell_in (sc : Nat × (Nat → Int32)) (I : Nat → Int32) (A : Nat → Nat → Int32) (Z : Int64) (d : Nat) (hI : I 20 = nI d) (h1 : 1 ≤ d) (h9 : d ≤ 9) (j : Nat) (hj : j < 12) : rs sc 96 0 [some (.ref 26), some (.int (nI j))] [] [] (hp I A Z) = some (some (.int (nI 1)), hp I A Z) := by
  simp (disch := omega) only [s_X8_isCell_0_0, s_X8_isCell_0_1, s_X8_isCell_0_2, s_X8_isCell_0_3, s_X8_isCell_0_6, s_X8_isCell_0_9, s_X8_isCell_0_12, s_X8_isCell_0_13, s_X8_isCell_0_16, s_X8_isCell_0_19, s_X8_isCell_0_20, s_X8_isCell_0_23, s_X8_isCell_0_24_b0, s_X8_isCell_0_24_b1, ↓i_lt_t, ↓i_lt_f, ↓i_le_t, ↓i_le_f, ↓i_eq_t, ↓i_eq_f, ↓i_m1a, ↓i_m1b, ↓i_m1c, ↓i_m1d, ↓i_m1e, ↓i_m1f, c_lt, c_le, c_eq, if_pos, if_neg, bnd_some, Option.toList, List.nil_append, List.cons_append, c_add, m1_lt, m1_eq1, m1_eq2, m1_le, ret_1, ret_0, if_true, if_false, eq_self_iff, mIn, in_j, mLacks sc I A Z d hI h9]
theorem mIsCell_no (sc : Nat × (Nat → Int32)) (I : Nat → Int32) (A : Nat → Nat → Int32) (Z : Int64) (hI : I 20 = nI 0) (x : Int32) : rs sc 96 0 [some (.ref 26), some (.int x)] [] [] (hp I A Z) = some (some (.int (nI 0)), hp I A Z) := by
  rcases ix3 x 12 (by omega) with h | ⟨j, hj, rfl⟩
  · simp (disch := omega) only [s_X8_isCell_0_0, s_X8_isCell_0_1, s_X8_isCell_0_2, s_X8_isCell_0_3, s_X8_isCell_0_6, s_X8_isCell_0_9, s_X8_isCell_0_12, s_X8_isCell_0_13, s_X8_isCell_0_16, s_X8_isCell_0_19, s_X8_isCell_0_20, s_X8_isCell_0_23, s_X8_isCell_0_24_b0, s_X8_isCell_0_24_b1, ↓i_lt_t, ↓i_lt_f, ↓i_le_t, ↓i_le_f, ↓i_eq_t, ↓i_eq_f, ↓i_m1a, ↓i_m1b, ↓i_m1c, ↓i_m1d, ↓i_m1e, ↓i_m1f, c_lt, c_le, c_eq, if_pos, if_neg, bnd_some, Option.toList, List.nil_append, List.cons_append, c_add, m1_lt, m1_eq1, m1_eq2, m1_le, ret_1, ret_0, if_true, if_false, eq_self_iff, mIn, out_f (N := 11) h]
  · simp (disch := omega) only [s_X8_isCell_0_0, s_X8_isCell_0_1, s_X8_isCell_0_2, s_X8_isCell_0_3, s_X8_isCell_0_6, s_X8_isCell_0_9, s_X8_isCell_0_12, s_X8_isCell_0_13, s_X8_isCell_0_16, s_X8_isCell_0_19, s_X8_isCell_0_20, s_X8_isCell_0_23, s_X8_isCell_0_24_b0, s_X8_isCell_0_24_b1, ↓i_lt_t, ↓i_lt_f, ↓i_le_t, ↓i_le_f, ↓i_eq_t, ↓i_eq_f, ↓i_m1a, ↓i_m1b, ↓i_m1c, ↓i_m1d, ↓i_m1e, ↓i_m1f, c_lt, c_le, c_eq, if_pos, if_neg, bnd_some, Option.toList, List.nil_append, List.cons_append, c_add, m1_lt, m1_eq1, m1_eq2, m1_le, ret_1, ret_0, if_true, if_false, eq_self_iff, mIn, in_j, mLacks sc I A Z 0 hI (by omega)]
theorem mIsCell_out (sc : Nat × (Nat → Int32)) (I : Nat → Int32) (A : Nat → Nat → Int32) (Z : Int64) (x : Int32) (h : Out 12 x) : rs sc 96 0 [some (.ref 26), some (.int x)] [] [] (hp I A Z) = some (some (.int (nI 0)), hp I A Z) := by
  simp (disch := omega) only [s_X8_isCell_0_0, s_X8_isCell_0_1, s_X8_isCell_0_2, s_X8_isCell_0_3, s_X8_isCell_0_6, s_X8_isCell_0_9, s_X8_isCell_0_12, s_X8_isCell_0_13, s_X8_isCell_0_16, s_X8_isCell_0_19, s_X8_isCell_0_20, s_X8_isCell_0_23, s_X8_isCell_0_24_b0, s_X8_isCell_0_24_b1, ↓i_lt_t, ↓i_lt_f, ↓i_le_t, ↓i_le_f, ↓i_eq_t, ↓i_eq_f, ↓i_m1a, ↓i_m1b, ↓i_m1c, ↓i_m1d, ↓i_m1e, ↓i_m1f, c_lt, c_le, c_eq, if_pos, if_neg, bnd_some, Option.toList, List.nil_append, List.cons_append, c_add, m1_lt, m1_eq1, m1_eq2, m1_le, ret_1, ret_0, if_true, if_false, eq_self_iff, mIn, out_f (N := 11) h]
theorem mIsWay_in (sc : Nat × (Nat → Int32)) (I : Nat → Int32) (A : Nat → Nat → Int32) (Z : Int64) (j : Nat) (hj : j < 4) : rs sc 102 0 [some (.int (nI j))] [] [] (hp I A Z) = some (some (.int (nI 1)), hp I A Z) := by
  simp (disch := omega) only [s_X8_isWay_0_0, s_X8_isWay_0_1, s_X8_isWay_0_2, s_X8_isWay_0_3, s_X8_isWay_0_6, s_X8_isWay_0_9_b0, s_X8_isWay_0_9_b1, ↓i_lt_t, ↓i_lt_f, ↓i_le_t, ↓i_le_f, ↓i_eq_t, ↓i_eq_f, ↓i_m1a, ↓i_m1b, ↓i_m1c, ↓i_m1d, ↓i_m1e, ↓i_m1f, c_lt, c_le, c_eq, if_pos, if_neg, bnd_some, Option.toList, List.nil_append, List.cons_append, c_add, m1_lt, m1_eq1, m1_eq2, m1_le, ret_1, ret_0, if_true, if_false, eq_self_iff, mIn, in_j]
theorem mIsWay_out (sc : Nat × (Nat → Int32)) (I : Nat → Int32) (A : Nat → Nat → Int32) (Z : Int64) (x : Int32) (h : Out 4 x) : rs sc 102 0 [some (.int x)] [] [] (hp I A Z) = some (some (.int (nI 0)), hp I A Z) := by
  simp (disch := omega) only [s_X8_isWay_0_0, s_X8_isWay_0_1, s_X8_isWay_0_2, s_X8_isWay_0_3, s_X8_isWay_0_6, s_X8_isWay_0_9_b0, s_X8_isWay_0_9_b1, ↓i_lt_t, ↓i_lt_f, ↓i_le_t, ↓i_le_f, ↓i_eq_t, ↓i_eq_f, ↓i_m1a, ↓i_m1b, ↓i_m1c, ↓i_m1d, ↓i_m1e, ↓i_m1f, c_lt, c_le, c_eq, if_pos, if_neg, bnd_some, Option.toList, List.nil_append, List.cons_append, c_add, m1_lt, m1_eq1, m1_eq2, m1_le, ret_1, ret_0, if_true, if_false, eq_self_iff, mIn, out_f (N := 3) h]
theorem mIsClerk_in (sc : Nat × (Nat → Int32)) (I : Nat → Int32) (A : Nat → Nat → Int32) (Z : Int64) (n j : Nat) (hI : I 26 = nI n) (hn : n ≤ 3) (hj : j < n) : rs sc 100 0 [some (.ref 26), some (.int (nI j))] [] [] (hp I A Z) = some (some (.int (nI 1)), hp I A Z) := by
  have e : nI n - nI 1 = nI (n - 1) := c_sub (by omega)
  have e2 : (nI (n - 1)).toInt64 = lN (n - 1) := nI_l (by omega)
  simp (disch := omega) only [s_X8_isClerk_0_0, s_X8_isClerk_0_1, s_X8_isClerk_0_2, s_X8_isClerk_0_3, s_X8_isClerk_0_4, s_X8_isClerk_0_7, s_X8_isClerk_0_8, s_X8_isClerk_0_9, s_X8_isClerk_0_10, s_X8_isClerk_0_13_b0, s_X8_isClerk_0_13_b1, ↓i_lt_t, ↓i_lt_f, ↓i_le_t, ↓i_le_f, ↓i_eq_t, ↓i_eq_f, ↓i_m1a, ↓i_m1b, ↓i_m1c, ↓i_m1d, ↓i_m1e, ↓i_m1f, c_lt, c_le, c_eq, if_pos, if_neg, bnd_some, Option.toList, List.nil_append, List.cons_append, c_add, m1_lt, m1_eq1, m1_eq2, m1_le, ret_1, ret_0, if_true, if_false, eq_self_iff, hI, e, e2, mIn, in_j]
theorem mIsClerk_out (sc : Nat × (Nat → Int32)) (I : Nat → Int32) (A : Nat → Nat → Int32) (Z : Int64) (n : Nat) (hI : I 26 = nI n) (hn : n ≤ 3) (x : Int32) (h : Out n x) : rs sc 100 0 [some (.ref 26), some (.int x)] [] [] (hp I A Z) = some (some (.int (nI 0)), hp I A Z) := by
  by_cases hz : n = 0
  · subst hz
    simp (disch := omega) only [s_X8_isClerk_0_0, s_X8_isClerk_0_1, s_X8_isClerk_0_2, s_X8_isClerk_0_3, s_X8_isClerk_0_4, s_X8_isClerk_0_7, s_X8_isClerk_0_8, s_X8_isClerk_0_9, s_X8_isClerk_0_10, s_X8_isClerk_0_13_b0, s_X8_isClerk_0_13_b1, ↓i_lt_t, ↓i_lt_f, ↓i_le_t, ↓i_le_f, ↓i_eq_t, ↓i_eq_f, ↓i_m1a, ↓i_m1b, ↓i_m1c, ↓i_m1d, ↓i_m1e, ↓i_m1f, c_lt, c_le, c_eq, if_pos, if_neg, bnd_some, Option.toList, List.nil_append, List.cons_append, c_add, m1_lt, m1_eq1, m1_eq2, m1_le, ret_1, ret_0, if_true, if_false, eq_self_iff, hI, mIn, in_none]
  · have e : nI n - nI 1 = nI (n - 1) := c_sub (by omega)
    have e2 : (nI (n - 1)).toInt64 = lN (n - 1) := nI_l (by omega)
    have h2 : Out (n - 1 + 1) x := by rw [show n - 1 + 1 = n by omega]; exact h
    simp (disch := omega) only [s_X8_isClerk_0_0, s_X8_isClerk_0_1, s_X8_isClerk_0_2, s_X8_isClerk_0_3, s_X8_isClerk_0_4, s_X8_isClerk_0_7, s_X8_isClerk_0_8, s_X8_isClerk_0_9, s_X8_isClerk_0_10, s_X8_isClerk_0_13_b0, s_X8_isClerk_0_13_b1, ↓i_lt_t, ↓i_lt_f, ↓i_le_t, ↓i_le_f, ↓i_eq_t, ↓i_eq_f, ↓i_m1a, ↓i_m1b, ↓i_m1c, ↓i_m1d, ↓i_m1e, ↓i_m1f, c_lt, c_le, c_eq, if_pos, if_neg, bnd_some, Option.toList, List.nil_append, List.cons_append, c_add, m1_lt, m1_eq1, m1_eq2, m1_le, ret_1, ret_0, if_true, if_false, eq_self_iff, hI, e, e2, mIn, out_f h2]
theorem mIsPerson_in (sc : Nat × (Nat → Int32)) (I : Nat → Int32) (A : Nat → Nat → Int32) (Z : Int64) (n j : Nat) (hI : I 27 = nI n) (hn : n ≤ 3) (hj : j < n) : rs sc 101 0 [some (.ref 26), some (.int (nI j))] [] [] (hp I A Z) = some (some (.int (nI 1)), hp I A Z) := by
  have e : nI n - nI 1 = nI (n - 1) := c_sub (by omega)
  have e2 : (nI (n - 1)).toInt64 = lN (n - 1) := nI_l (by omega)
  simp (disch := omega) only [s_X8_isPerson_0_0, s_X8_isPerson_0_1, s_X8_isPerson_0_2, s_X8_isPerson_0_3, s_X8_isPerson_0_4, s_X8_isPerson_0_7, s_X8_isPerson_0_8, s_X8_isPerson_0_9, s_X8_isPerson_0_10, s_X8_isPerson_0_13_b0, s_X8_isPerson_0_13_b1, ↓i_lt_t, ↓i_lt_f, ↓i_le_t, ↓i_le_f, ↓i_eq_t, ↓i_eq_f, ↓i_m1a, ↓i_m1b, ↓i_m1c, ↓i_m1d, ↓i_m1e, ↓i_m1f, c_lt, c_le, c_eq, if_pos, if_neg, bnd_some, Option.toList, List.nil_append, List.cons_append, c_add, m1_lt, m1_eq1, m1_eq2, m1_le, ret_1, ret_0, if_true, if_false, eq_self_iff, hI, e, e2, mIn, in_j]
theorem mIsPerson_out (sc : Nat × (Nat → Int32)) (I : Nat → Int32) (A : Nat → Nat → Int32) (Z : Int64) (n : Nat) (hI : I 27 = nI n) (hn : n ≤ 3) (x : Int32) (h : Out n x) : rs sc 101 0 [some (.ref 26), some (.int x)] [] [] (hp I A Z) = some (some (.int (nI 0)), hp I A Z) := by
  by_cases hz : n = 0
  · subst hz
    simp (disch := omega) only [s_X8_isPerson_0_0, s_X8_isPerson_0_1, s_X8_isPerson_0_2, s_X8_isPerson_0_3, s_X8_isPerson_0_4, s_X8_isPerson_0_7, s_X8_isPerson_0_8, s_X8_isPerson_0_9, s_X8_isPerson_0_10, s_X8_isPerson_0_13_b0, s_X8_isPerson_0_13_b1, ↓i_lt_t, ↓i_lt_f, ↓i_le_t, ↓i_le_f, ↓i_eq_t, ↓i_eq_f, ↓i_m1a, ↓i_m1b, ↓i_m1c, ↓i_m1d, ↓i_m1e, ↓i_m1f, c_lt, c_le, c_eq, if_pos, if_neg, bnd_some, Option.toList, List.nil_append, List.cons_append, c_add, m1_lt, m1_eq1, m1_eq2, m1_le, ret_1, ret_0, if_true, if_false, eq_self_iff, hI, mIn, in_none]
  · have e : nI n - nI 1 = nI (n - 1) := c_sub (by omega)
    have e2 : (nI (n - 1)).toInt64 = lN (n - 1) := nI_l (by omega)
    have h2 : Out (n - 1 + 1) x := by rw [show n - 1 + 1 = n by omega]; exact h
    simp (disch := omega) only [s_X8_isPerson_0_0, s_X8_isPerson_0_1, s_X8_isPerson_0_2, s_X8_isPerson_0_3, s_X8_isPerson_0_4, s_X8_isPerson_0_7, s_X8_isPerson_0_8, s_X8_isPerson_0_9, s_X8_isPerson_0_10, s_X8_isPerson_0_13_b0, s_X8_isPerson_0_13_b1, ↓i_lt_t, ↓i_lt_f, ↓i_le_t, ↓i_le_f, ↓i_eq_t, ↓i_eq_f, ↓i_m1a, ↓i_m1b, ↓i_m1c, ↓i_m1d, ↓i_m1e, ↓i_m1f, c_lt, c_le, c_eq, if_pos, if_neg, bnd_some, Option.toList, List.nil_append, List.cons_append, c_add, m1_lt, m1_eq1, m1_eq2, m1_le, ret_1, ret_0, if_true, if_false, eq_self_iff, hI, e, e2, mIn, out_f h2]
end
/-- clerks n, dusk k, people m, ledger q; where the clerks stand and look, where the people stand, what they have entered, the ledger's rows -/
abbrev Scn : Type := Nat × Nat × Nat × Nat × (Nat → Nat) × (Nat → Nat) × (Nat → Nat) × (Nat → Int32) × (Nat → Int32)
/-- a house stands h, its depth d, its signs s; the scene; the page; tilts T, houses R; an image is kept b, and which -/
abbrev St : Type := Nat × Nat × (Nat → Nat) × Scn × Nat × (Nat → Nat) × Nat × Nat × Nat × Scn
def XSc : Scn → (Nat → Int32) → (Nat → Nat → Int32) → Prop
  | (n, k, m, q, cc, cw, pc, pe, lt), I, A => XC n k cc cw I A ∧ XP m pc pe I A ∧ XL q lt I A
def MSc : Scn → (Nat → Int32) → (Nat → Nat → Int32) → Prop
  | (n, k, m, q, cc, cw, pc, pe, lt), I, A => MC2 n cc cw I A ∧ MP m pc pe I A ∧ ML2 q lt I A ∧ I 21 = nI k
def XK (S : Scn) (I : Nat → Int32) (A : Nat → Nat → Int32) : Prop := XSc S (fun j => I (j + 4)) (fun p => A (p + 6))
def MK : Scn → (Nat → Int32) → (Nat → Nat → Int32) → Prop
  | (n, k, m, q, cc, cw, pc, pe, lt), I, A => MC2 n cc cw (fun j => I (j + 7)) (fun p => A (p + 8)) ∧ MP m pc pe (fun j => I (j + 7)) (fun p => A (p + 8)) ∧ ML2 q lt (fun j => I (j + 6)) (fun p => A (p + 6)) ∧ I 32 = nI k ∧ k < 2
def XS : St → (Nat → Int32) → (Nat → Nat → Int32) → Prop
  | (h, d, s, S, np, cs, T, R, b, K), I, A => (h = 1 → XH s d I A) ∧ (h = 0 → I 4 = nI 0 ∧ I 5 = nI 0) ∧ XSc S I A ∧ XPg np cs I A ∧ I 2 = nI T ∧ I 1 = nI R ∧ I 0 = nI b ∧ (b = 1 → XK K I A)
def MSt : St → (Nat → Int32) → (Nat → Nat → Int32) → Prop
  | (h, d, s, S, np, cs, T, R, b, K), I, A => (h = 1 → MH s d S.2.1 I A) ∧ (h = 0 → I 20 = nI 0) ∧ MSc S I A ∧ MPg np cs I A ∧ I 28 = nI T ∧ I 22 = nI R ∧ (b = 1 → I 31 = nI R ∧ MK K I A) ∧ (b = 0 → I 31 = -1 ∨ ∃ r, r < R ∧ I 31 = nI r)
def WF (N : Nat) : St → Prop
  | (h, _, _, (n, _, m, _), _, _, T, R, b, _) => h < 2 ∧ (h = 0 → n = 0 ∧ m = 0 ∧ b = 0) ∧ T ≤ 20 ∧ R ≤ N ∧ b < 2
def Same (a b : Nat) (I' I : Nat → Int32) : Prop := ∀ j, a ≤ j → j < b → I' j = I j
def SameA (a b : Nat) (A' A : Nat → Nat → Int32) : Prop := ∀ p, a ≤ p → p < b → A' p = A p
theorem XH.fr {s : Nat → Nat} {d : Nat} {I I' : Nat → Int32} {A A' : Nat → Nat → Int32} (h : XH s d I A) (h4 : I' 4 = I 4) (h5 : I' 5 = I 5) (ha : A' 4 = A 4) : XH s d I' A' := by
  unfold XH at h ⊢; rw [h4, h5, ha]; exact h
theorem XC.fr {n k : Nat} {cc cw : Nat → Nat} {I I' : Nat → Int32} {A A' : Nat → Nat → Int32} (h : XC n k cc cw I A) (h6 : I' 6 = I 6) (h9 : I' 9 = I 9) (ha : A' 6 = A 6) (hb : A' 7 = A 7) : XC n k cc cw I' A' := by
  unfold XC at h ⊢; rw [h6, h9, ha, hb]; exact h
theorem XP.fr {m : Nat} {pc : Nat → Nat} {pe : Nat → Int32} {I I' : Nat → Int32} {A A' : Nat → Nat → Int32} (h : XP m pc pe I A) (h7 : I' 7 = I 7) (ha : A' 8 = A 8) (hb : A' 9 = A 9) : XP m pc pe I' A' := by
  unfold XP at h ⊢; rw [h7, ha, hb]; exact h
theorem XL.fr {q : Nat} {lt : Nat → Int32} {I I' : Nat → Int32} {A A' : Nat → Nat → Int32} (h : XL q lt I A) (h8 : I' 8 = I 8) (ha : A' 10 = A 10) : XL q lt I' A' := by
  unfold XL at h ⊢; rw [h8, ha]; exact h
theorem XPg.fr {n : Nat} {cs : Nat → Nat} {I I' : Nat → Int32} {A A' : Nat → Nat → Int32} (h : XPg n cs I A) (h3 : I' 3 = I 3) (ha : A' 2 = A 2) : XPg n cs I' A' := by
  unfold XPg at h ⊢; rw [h3, ha]; exact h
theorem MH.fr {s : Nat → Nat} {d k : Nat} {I I' : Nat → Int32} {A A' : Nat → Nat → Int32} (h : MH s d k I A) (h4 : I' 20 = I 20) (h5 : I' 21 = I 21) (ha : EqN 12 (A' 28) (A 28)) : MH s d k I' A' := by
  unfold MH at h ⊢
  rw [h4, h5]
  exact ⟨h.1, h.2.1, h.2.2.1, h.2.2.2.1, h.2.2.2.2.1, fun c hc => by rw [ha c hc]; exact h.2.2.2.2.2 c hc⟩
theorem MC2.fr {n : Nat} {cc cw : Nat → Nat} {I I' : Nat → Int32} {A A' : Nat → Nat → Int32} (h : MC2 n cc cw I A) (h6 : I' 26 = I 26) (ha : A' 29 = A 29) : MC2 n cc cw I' A' := by
  unfold MC2 at h ⊢; rw [h6, ha]; exact h
theorem MP.fr {m : Nat} {pc : Nat → Nat} {pe : Nat → Int32} {I I' : Nat → Int32} {A A' : Nat → Nat → Int32} (h : MP m pc pe I A) (h7 : I' 27 = I 27) (ha : A' 30 = A 30) : MP m pc pe I' A' := by
  unfold MP at h ⊢; rw [h7, ha]; exact h
theorem ML2.fr {q : Nat} {lt : Nat → Int32} {I I' : Nat → Int32} {A A' : Nat → Nat → Int32} (h : ML2 q lt I A) (h8 : I' 29 = I 29) (ha : A' 33 = A 33) : ML2 q lt I' A' := by
  unfold ML2 at h ⊢; rw [h8, ha]; exact h
theorem MPg.fr {n : Nat} {cs : Nat → Nat} {I I' : Nat → Int32} {A A' : Nat → Nat → Int32} (h : MPg n cs I A) (h3 : I' 19 = I 19) (ha : A' 27 = A 27) : MPg n cs I' A' := by
  unfold MPg at h ⊢; rw [h3, ha]; exact h
theorem XSc.fr {S : Scn} {I I' : Nat → Int32} {A A' : Nat → Nat → Int32} (h : XSc S I A) (hI : Same 6 10 I' I) (hA : SameA 6 11 A' A) : XSc S I' A' := by
  obtain ⟨n, k, m, q, cc, cw, pc, pe, lt⟩ := S
  obtain ⟨h1, h2, h3⟩ := h
  exact And.intro (h1.fr (hI 6 (by decide) (by decide)) (hI 9 (by decide) (by decide)) (hA 6 (by decide) (by decide)) (hA 7 (by decide) (by decide))) (And.intro (h2.fr (hI 7 (by decide) (by decide)) (hA 8 (by decide) (by decide)) (hA 9 (by decide) (by decide))) (h3.fr (hI 8 (by decide) (by decide)) (hA 10 (by decide) (by decide))))
theorem XK.fr {S : Scn} {I I' : Nat → Int32} {A A' : Nat → Nat → Int32} (h : XK S I A) (hI : Same 10 14 I' I) (hA : SameA 12 17 A' A) : XK S I' A' :=
  XSc.fr (S := S) (I := fun j => I (j + 4)) (I' := fun j => I' (j + 4)) (A := fun p => A (p + 6)) (A' := fun p => A' (p + 6)) h (fun j a b => hI (j + 4) (by omega) (by omega)) (fun p a b => hA (p + 6) (by omega) (by omega))
theorem XS.fr {U : St} {I I' : Nat → Int32} {A A' : Nat → Nat → Int32} (h : XS U I A) (hI : Same 0 14 I' I) (hA : SameA 0 17 A' A) : XS U I' A' := by
  obtain ⟨h0, d, s, S, np, cs, T, R, b, K⟩ := U
  obtain ⟨h1, h2, h3, h4, h5, h6, h7, h8⟩ := h
  refine And.intro (fun e => (h1 e).fr (hI 4 (by decide) (by decide)) (hI 5 (by decide) (by decide)) (hA 4 (by decide) (by decide))) (And.intro (fun e => ?_) (And.intro (h3.fr (fun j a b => hI j (by omega) (by omega)) (fun j a b => hA j (by omega) (by omega))) (And.intro (h4.fr (hI 3 (by decide) (by decide)) (hA 2 (by decide) (by decide))) (And.intro ?_ (And.intro ?_ (And.intro ?_ (fun e => (h8 e).fr (fun j a b => hI j (by omega) (by omega)) (fun j a b => hA j (by omega) (by omega)))))))))
  · rw [hI 4 (by decide) (by decide), hI 5 (by decide) (by decide)]; exact h2 e
  · rw [hI 2 (by decide) (by decide)]; exact h5
  · rw [hI 1 (by decide) (by decide)]; exact h6
  · rw [hI 0 (by decide) (by decide)]; exact h7
theorem MK.fr {S : Scn} {I I' : Nat → Int32} {A A' : Nat → Nat → Int32} (h : MK S I A) (hI : Same 31 36 I' I) (hA : SameA 37 40 A' A) : MK S I' A' := by
  obtain ⟨n, k, m, q, cc, cw, pc, pe, lt⟩ := S
  obtain ⟨h1, h2, h3, h4⟩ := h
  refine And.intro (h1.fr (hI 33 (by decide) (by decide)) (hA 37 (by decide) (by decide))) (And.intro (h2.fr (hI 34 (by decide) (by decide)) (hA 38 (by decide) (by decide))) (And.intro (h3.fr (hI 35 (by decide) (by decide)) (hA 39 (by decide) (by decide))) ?_))
  rw [hI 32 (by decide) (by decide)]; exact h4
/-- the model's own, but for its scratch -/
def SameM (I' I : Nat → Int32) : Prop := ∀ j, 19 ≤ j → j < 36 → j ≠ 23 → j ≠ 24 → j ≠ 25 → j ≠ 30 → I' j = I j
def SameMA (A' A : Nat → Nat → Int32) : Prop := (∀ p, 27 ≤ p → p < 40 → p ≠ 28 → p ≠ 31 → p ≠ 32 → p ≠ 34 → p ≠ 35 → p ≠ 36 → A' p = A p) ∧ EqN 12 (A' 28) (A 28)
theorem MSc.fr {S : Scn} {I I' : Nat → Int32} {A A' : Nat → Nat → Int32} (h : MSc S I A) (h21 : I' 21 = I 21) (h26 : I' 26 = I 26) (h27 : I' 27 = I 27) (h29 : I' 29 = I 29) (a29 : A' 29 = A 29) (a30 : A' 30 = A 30) (a33 : A' 33 = A 33) : MSc S I' A' := by
  obtain ⟨n, k, m, q, cc, cw, pc, pe, lt⟩ := S
  obtain ⟨h1, h2, h3, h4⟩ := h
  exact And.intro (h1.fr h26 a29) (And.intro (h2.fr h27 a30) (And.intro (h3.fr h29 a33) (h21.trans h4)))
theorem MSt.fr {U : St} {I I' : Nat → Int32} {A A' : Nat → Nat → Int32} (h : MSt U I A) (hI : SameM I' I) (hA : SameMA A' A) : MSt U I' A' := by
  obtain ⟨h0, d, s, S, np, cs, T, R, b, K⟩ := U
  obtain ⟨h1, h2, h3, h4, h5, h6, h7, h8⟩ := h
  have i (j : Nat) (hj : j = 19 ∨ j = 20 ∨ j = 21 ∨ j = 22 ∨ j = 26 ∨ j = 27 ∨ j = 28 ∨ j = 29 ∨ j = 31 ∨ j = 32 ∨ j = 33 ∨ j = 34 ∨ j = 35) : I' j = I j := hI j (by omega) (by omega) (by omega) (by omega) (by omega) (by omega)
  have a (p : Nat) (hp : p = 27 ∨ p = 29 ∨ p = 30 ∨ p = 33 ∨ p = 37 ∨ p = 38 ∨ p = 39) : A' p = A p := hA.1 p (by omega) (by omega) (by omega) (by omega) (by omega) (by omega) (by omega) (by omega)
  refine And.intro (fun e => ?_) (And.intro (fun e => ?_) (And.intro (h3.fr (i 21 (by decide)) (i 26 (by decide)) (i 27 (by decide)) (i 29 (by decide)) (a 29 (by decide)) (a 30 (by decide)) (a 33 (by decide))) (And.intro (h4.fr (i 19 (by decide)) (a 27 (by decide))) (And.intro ?_ (And.intro ?_ (And.intro (fun e => ?_) (fun e => ?_)))))))
  · exact (h1 e).fr (i 20 (by decide)) (i 21 (by decide)) hA.2
  · rw [i 20 (by decide)]; exact h2 e
  · rw [i 28 (by decide)]; exact h5
  · rw [i 22 (by decide)]; exact h6
  · rw [i 31 (by decide)]
    exact ⟨(h7 e).1, (h7 e).2.fr (fun j x y => i j (by omega)) (fun p x y => a p (by omega))⟩
  · rw [i 31 (by decide)]; exact h8 e
/-- a call of the class, a call of the reference: from the state U they answer r and go to U' -/
def TX (sc : Nat × (Nat → Int32)) (U U' : St) (r : Int32) (k : Nat) (ls : Ls) : Prop := ∀ (I : Nat → Int32) (A : Nat → Nat → Int32) (Z : Int64), XS U I A → ∃ (I' : Nat → Int32) (A' : Nat → Nat → Int32), rs sc k 0 ls [] [] (hp I A Z) = some (some (.int r), hp I' A' Z) ∧ XS U' I' A' ∧ Same 19 36 I' I ∧ SameA 27 40 A' A
def TM (sc : Nat × (Nat → Int32)) (U U' : St) (r : Int32) (k : Nat) (ls : Ls) : Prop := ∀ (I : Nat → Int32) (A : Nat → Nat → Int32) (Z : Int64), MSt U I A → ∃ (I' : Nat → Int32) (A' : Nat → Nat → Int32) (Z' : Int64), rs sc k 0 ls [] [] (hp I A Z) = some (some (.int r), hp I' A' Z') ∧ MSt U' I' A' ∧ Same 0 19 I' I ∧ SameA 0 27 A' A
def Ok (sc : Nat × (Nat → Int32)) (N : Nat) (U : St) (kx : Nat) (lx : Ls) (km : Nat) (lm : Ls) : Prop := ∃ (r : Int32) (U' : St), WF (N + 1) U' ∧ TX sc U U' r kx lx ∧ TM sc U U' r km lm
theorem WF.up {N : Nat} {U : St} (h : WF N U) : WF (N + 1) U := by
  obtain ⟨h0, d, s, ⟨n, k, m, q, cc, cw, pc, pe, lt⟩, np, cs, T, R, b, K⟩ := U
  obtain ⟨h1, h2, h3, h4, h5⟩ := h
  exact And.intro h1 (And.intro h2 (And.intro h3 (And.intro (Nat.le_succ_of_le h4) h5)))
theorem TX.rd {sc : Nat × (Nat → Int32)} {U : St} {r : Int32} {k : Nat} {ls : Ls} (h : ∀ (I : Nat → Int32) (A : Nat → Nat → Int32) (Z : Int64), XS U I A → ∃ (I' : Nat → Int32) (A' : Nat → Nat → Int32), rs sc k 0 ls [] [] (hp I A Z) = some (some (.int r), hp I' A' Z) ∧ (∀ j, j < 14 ∨ 18 < j → I' j = I j) ∧ (∀ p, p < 17 ∨ 25 < p → A' p = A p)) : TX sc U U r k ls := fun I A Z hX => by
  obtain ⟨I', A', h1, h2, h3⟩ := h I A Z hX
  exact ⟨I', A', h1, hX.fr (fun j _ b => h2 j (Or.inl b)) (fun p _ b => h3 p (Or.inl b)), fun j a _ => h2 j (Or.inr (by omega)), fun p a _ => h3 p (Or.inr (by omega))⟩
theorem TM.rd {sc : Nat × (Nat → Int32)} {U : St} {r : Int32} {k : Nat} {ls : Ls} (h : ∀ (I : Nat → Int32) (A : Nat → Nat → Int32) (Z : Int64), MSt U I A → ∃ (I' : Nat → Int32) (A' : Nat → Nat → Int32) (Z' : Int64), rs sc k 0 ls [] [] (hp I A Z) = some (some (.int r), hp I' A' Z') ∧ (∀ j, j ≠ 23 → j ≠ 24 → j ≠ 25 → j ≠ 30 → I' j = I j) ∧ (∀ p, p ≠ 28 → p ≠ 31 → p ≠ 32 → p ≠ 34 → p ≠ 35 → p ≠ 36 → A' p = A p) ∧ EqN 12 (A' 28) (A 28)) : TM sc U U r k ls := fun I A Z hX => by
  obtain ⟨I', A', Z', h1, h2, h3, h4⟩ := h I A Z hX
  exact ⟨I', A', Z', h1, hX.fr (fun j _ _ => h2 j) ⟨fun p _ _ => h3 p, h4⟩, fun j a b => h2 j (by omega) (by omega) (by omega) (by omega), fun p a b => h3 p (by omega) (by omega) (by omega) (by omega) (by omega) (by omega)⟩
/-- nothing written at all -/
theorem TX.eq {sc : Nat × (Nat → Int32)} {U : St} {r : Int32} {k : Nat} {ls : Ls} (h : ∀ (I : Nat → Int32) (A : Nat → Nat → Int32) (Z : Int64), XS U I A → rs sc k 0 ls [] [] (hp I A Z) = some (some (.int r), hp I A Z)) : TX sc U U r k ls := TX.rd (fun I A Z hX => ⟨I, A, h I A Z hX, fun _ _ => rfl, fun _ _ => rfl⟩)
theorem TM.eq {sc : Nat × (Nat → Int32)} {U : St} {r : Int32} {k : Nat} {ls : Ls} (h : ∀ (I : Nat → Int32) (A : Nat → Nat → Int32) (Z : Int64), MSt U I A → rs sc k 0 ls [] [] (hp I A Z) = some (some (.int r), hp I A Z)) : TM sc U U r k ls := TM.rd (fun I A Z hX => ⟨I, A, Z, h I A Z hX, fun _ _ _ _ _ => rfl, fun _ _ _ _ _ _ _ => rfl, fun _ _ => rfl⟩)
theorem TX.ag {sc : Nat × (Nat → Int32)} {U : St} {r : Int32} {k : Nat} {ls : Ls} (h : ∀ (I : Nat → Int32) (A : Nat → Nat → Int32) (Z : Int64), XS U I A → ∃ I' : Nat → Int32, rs sc k 0 ls [] [] (hp I A Z) = some (some (.int r), hp I' A Z) ∧ Ag I' I) : TX sc U U r k ls := TX.rd (fun I A Z hX => by
  obtain ⟨I', h1, h2⟩ := h I A Z hX
  exact ⟨I', A, h1, fun j hj => h2 j (by omega) (by omega) (by omega), fun _ _ => rfl⟩)
theorem TM.ag {sc : Nat × (Nat → Int32)} {U : St} {r : Int32} {k : Nat} {ls : Ls} (h : ∀ (I : Nat → Int32) (A : Nat → Nat → Int32) (Z : Int64), MSt U I A → ∃ I' : Nat → Int32, rs sc k 0 ls [] [] (hp I A Z) = some (some (.int r), hp I' A Z) ∧ AgM I' I) : TM sc U U r k ls := TM.rd (fun I A Z hX => by
  obtain ⟨I', h1, h2⟩ := h I A Z hX
  exact ⟨I', A, Z, h1, fun j a b c _ => h2 j a b c, fun _ _ _ _ _ _ _ => rfl, fun _ _ => rfl⟩)
def un (f : Nat → Nat) (n v : Nat) : Nat → Nat := fun i => if i = n then v else f i
theorem un_s (f : Nat → Nat) (n v : Nat) : un f n v n = v := if_pos rfl
theorem un_n {f : Nat → Nat} {n v i : Nat} (h : i ≠ n) : un f n v i = f i := if_neg h
theorem XS.pg {h d : Nat} {s : Nat → Nat} {S : Scn} {np np' : Nat} {cs cs' : Nat → Nat} {T R b : Nat} {K : Scn} {I I' : Nat → Int32} {A A' : Nat → Nat → Int32} (hX : XS (h, d, s, S, np, cs, T, R, b, K) I A) (hI : ∀ j, j < 14 → j ≠ 3 → I' j = I j) (hA : ∀ p, p < 17 → p ≠ 2 → A' p = A p) (hp : XPg np' cs' I' A') : XS (h, d, s, S, np', cs', T, R, b, K) I' A' := by
  obtain ⟨h1, h2, h3, h4, h5, h6, h7, h8⟩ := hX
  refine And.intro (fun e => (h1 e).fr (hI 4 (by decide) (by decide)) (hI 5 (by decide) (by decide)) (hA 4 (by decide) (by decide))) (And.intro (fun e => ?_) (And.intro (h3.fr (fun j a b => hI j (by omega) (by omega)) (fun j a b => hA j (by omega) (by omega))) (And.intro hp (And.intro ((hI 2 (by decide) (by decide)).trans h5) (And.intro ((hI 1 (by decide) (by decide)).trans h6) (And.intro ((hI 0 (by decide) (by decide)).trans h7) (fun e => (h8 e).fr (fun j a b => hI j (by omega) (by omega)) (fun j a b => hA j (by omega) (by omega)))))))))
  rw [hI 4 (by decide) (by decide), hI 5 (by decide) (by decide)]; exact h2 e
theorem XS.sn {h d : Nat} {s : Nat → Nat} {S S' : Scn} {np : Nat} {cs : Nat → Nat} {T R b : Nat} {K : Scn} {I I' : Nat → Int32} {A A' : Nat → Nat → Int32} (hX : XS (h, d, s, S, np, cs, T, R, b, K) I A) (hI : ∀ j, j < 6 ∨ (10 ≤ j ∧ j < 14) → I' j = I j) (hA : ∀ p, p < 6 ∨ (11 ≤ p ∧ p < 17) → A' p = A p) (hs : XSc S' I' A') : XS (h, d, s, S', np, cs, T, R, b, K) I' A' := by
  obtain ⟨h1, h2, h3, h4, h5, h6, h7, h8⟩ := hX
  refine And.intro (fun e => (h1 e).fr (hI 4 (by decide)) (hI 5 (by decide)) (hA 4 (by decide))) (And.intro (fun e => ?_) (And.intro hs (And.intro (h4.fr (hI 3 (by decide)) (hA 2 (by decide))) (And.intro ((hI 2 (by decide)).trans h5) (And.intro ((hI 1 (by decide)).trans h6) (And.intro ((hI 0 (by decide)).trans h7) (fun e => (h8 e).fr (fun j a b => hI j (by omega)) (fun j a b => hA j (by omega)))))))))
  rw [hI 4 (by decide), hI 5 (by decide)]; exact h2 e
theorem MSt.pg {h d : Nat} {s : Nat → Nat} {S : Scn} {np np' : Nat} {cs cs' : Nat → Nat} {T R b : Nat} {K : Scn} {I I' : Nat → Int32} {A A' : Nat → Nat → Int32} (hX : MSt (h, d, s, S, np, cs, T, R, b, K) I A) (hI : ∀ j, j ≠ 19 → I' j = I j) (hA : ∀ p, p ≠ 27 → A' p = A p) (hp : MPg np' cs' I' A') : MSt (h, d, s, S, np', cs', T, R, b, K) I' A' := by
  obtain ⟨h1, h2, h3, h4, h5, h6, h7, h8⟩ := hX
  refine And.intro (fun e => (h1 e).fr (hI 20 (by decide)) (hI 21 (by decide)) (fun j _ => by rw [hA 28 (by decide)])) (And.intro (fun e => (hI 20 (by decide)).trans (h2 e)) (And.intro (h3.fr (hI 21 (by decide)) (hI 26 (by decide)) (hI 27 (by decide)) (hI 29 (by decide)) (hA 29 (by decide)) (hA 30 (by decide)) (hA 33 (by decide))) (And.intro hp (And.intro ((hI 28 (by decide)).trans h5) (And.intro ((hI 22 (by decide)).trans h6) (And.intro (fun e => ⟨(hI 31 (by decide)).trans (h7 e).1, (h7 e).2.fr (fun j a b => hI j (by omega)) (fun j a b => hA j (by omega))⟩) (fun e => ?_)))))))
  rw [hI 31 (by decide)]; exact h8 e
theorem MSt.sn {h d : Nat} {s : Nat → Nat} {S S' : Scn} {np : Nat} {cs : Nat → Nat} {T R b : Nat} {K : Scn} {I I' : Nat → Int32} {A A' : Nat → Nat → Int32} (hX : MSt (h, d, s, S, np, cs, T, R, b, K) I A) (hI : ∀ j, j ≠ 21 → j ≠ 26 → j ≠ 27 → j ≠ 29 → j ≠ 23 → j ≠ 24 → j ≠ 25 → I' j = I j) (hA : ∀ p, p ≠ 29 → p ≠ 30 → p ≠ 33 → A' p = A p) (hk : h = 1 → I' 21 = nI S'.2.1 ∧ S'.2.1 < 2) (hs : MSc S' I' A') : MSt (h, d, s, S', np, cs, T, R, b, K) I' A' := by
  obtain ⟨h1, h2, h3, h4, h5, h6, h7, h8⟩ := hX
  have i (j : Nat) (hj : j = 19 ∨ j = 20 ∨ j = 22 ∨ j = 28 ∨ (30 ≤ j)) : I' j = I j := hI j (by omega) (by omega) (by omega) (by omega) (by omega) (by omega) (by omega)
  have a (p : Nat) (hp : p = 27 ∨ p = 28 ∨ 34 ≤ p) : A' p = A p := hA p (by omega) (by omega) (by omega)
  refine And.intro (fun e => ?_) (And.intro (fun e => (i 20 (by decide)).trans (h2 e)) (And.intro hs (And.intro (h4.fr (i 19 (by decide)) (a 27 (by decide))) (And.intro ((i 28 (by decide)).trans h5) (And.intro ((i 22 (by decide)).trans h6) (And.intro (fun e => ⟨(i 31 (by decide)).trans (h7 e).1, (h7 e).2.fr (fun j x y => i j (by omega)) (fun j x y => a j (by omega))⟩) (fun e => ?_)))))))
  · obtain ⟨g1, g2, g3, g4, g5, g6⟩ := h1 e
    exact ⟨(i 20 (by decide)).trans g1, (hk e).1, g3, g4, (hk e).2, by rw [a 28 (by decide)]; exact g6⟩
  · rw [i 31 (by decide)]; exact h8 e
