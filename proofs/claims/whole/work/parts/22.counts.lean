/-! COUNTS AND SUMS, on both sides -/
def flN (s : Nat → Nat) : Nat → Nat
  | 0 => 0
  | j + 1 => flN s j + (if s j = 0 then 1 else 0)
theorem flN_le (s : Nat → Nat) : ∀ j, flN s j ≤ j
  | 0 => Nat.le_refl _
  | j + 1 => by
    have := flN_le s j
    unfold flN
    split <;> omega
def seF (e : Nat → Int32) : Nat → Int32
  | 0 => nI 0
  | j + 1 => seF e j + e j
def ppN (pc : Nat → Nat) (c : Nat) : Nat → Nat
  | 0 => 0
  | j + 1 => ppN pc c j + (if pc j = c then 1 else 0)
def XP (m : Nat) (pc : Nat → Nat) (pe : Nat → Int32) (I : Nat → Int32) (A : Nat → Nat → Int32) : Prop := I 7 = nI m ∧ m ≤ 3 ∧ ∀ j, j < m → pc j < 12 ∧ A 8 j = nI (pc j) ∧ A 9 j = pe j
def MP (m : Nat) (pc : Nat → Nat) (pe : Nat → Int32) (I : Nat → Int32) (A : Nat → Nat → Int32) : Prop := I 27 = nI m ∧ m ≤ 3 ∧ ∀ j, j < m → pc j < 12 ∧ A 30 (2 * j) = nI (pc j) ∧ A 30 (2 * j + 1) = pe j
theorem XP.ag {m : Nat} {pc : Nat → Nat} {pe : Nat → Int32} {I I0 : Nat → Int32} {A : Nat → Nat → Int32} (h : XP m pc pe I0 A) (ha : Ag I I0) : XP m pc pe I A := ⟨by rw [ha 7 (by decide) (by decide) (by decide)]; exact h.1, h.2⟩
theorem MP.ag {m : Nat} {pc : Nat → Nat} {pe : Nat → Int32} {I I0 : Nat → Int32} {A : Nat → Nat → Int32} (h : MP m pc pe I0 A) (ha : AgM I I0) : MP m pc pe I A := ⟨by rw [ha 27 (by decide) (by decide) (by decide)]; exact h.1, h.2⟩
theorem floors_loop (sc : Nat × (Nat → Int32)) (I : Nat → Int32) (A : Nat → Nat → Int32) (Z : Int64) (s : Nat → Nat) (d : Nat) (hX : XH s d I A) : ∀ (f j : Nat), j + f = 12 → rs sc 8 4 [some (.ref 3), some (.int (nI (flN s j))), some (.int (nI j))] [] [] (hp I A Z) = some (some (.int (nI (flN s 12))), hp I A Z) := by
  intro f
  induction f with
  | zero =>
    intro j hj
    have e : j = 12 := by omega
    subst e
    simp (disch := omega) only [s_X1_floors_0_0, s_X1_floors_0_1, s_X1_floors_0_2, s_X1_floors_0_3, s_X1_floors_0_4, s_X1_floors_0_5, s_X1_floors_0_7, s_X1_floors_0_10, s_X1_floors_0_11, s_X1_floors_0_12, s_X1_floors_0_13, s_X1_floors_0_16, s_X1_floors_0_19, s_X1_floors_0_20, s_X1_floors_0_21, s_X1_floors_0_24, s_X1_floors_0_27, s_X1_floors_0_28, ↓i_lt_t, ↓i_lt_f, ↓i_le_t, ↓i_le_f, ↓i_eq_t, ↓i_eq_f, ↓i_m1a, ↓i_m1b, ↓i_m1c, ↓i_m1d, ↓i_m1e, ↓i_m1f, c_lt, c_le, c_eq, if_pos, if_neg, bnd_some, Option.toList, List.nil_append, List.cons_append, c_add, m1_lt, m1_eq1, m1_eq2, m1_le, ret_1, ret_0, if_true, if_false, eq_self_iff]
  | succ f ih =>
    intro j hj
    have q := ih (j + 1) (by omega)
    rw [s_X1_floors_0_4]
    by_cases h0 : s j = 0
    · rw [show flN s (j + 1) = flN s j + 1 by simp [flN, h0]] at q
      simp (disch := omega) only [s_X1_floors_0_0, s_X1_floors_0_1, s_X1_floors_0_2, s_X1_floors_0_3, s_X1_floors_0_5, s_X1_floors_0_7, s_X1_floors_0_10, s_X1_floors_0_11, s_X1_floors_0_12, s_X1_floors_0_13, s_X1_floors_0_16, s_X1_floors_0_19, s_X1_floors_0_20, s_X1_floors_0_21, s_X1_floors_0_24, s_X1_floors_0_27, s_X1_floors_0_28, ↓i_lt_t, ↓i_lt_f, ↓i_le_t, ↓i_le_f, ↓i_eq_t, ↓i_eq_f, ↓i_m1a, ↓i_m1b, ↓i_m1c, ↓i_m1d, ↓i_m1e, ↓i_m1f, c_lt, c_le, c_eq, if_pos, if_neg, bnd_some, Option.toList, List.nil_append, List.cons_append, c_add, m1_lt, m1_eq1, m1_eq2, m1_le, ret_1, ret_0, if_true, if_false, eq_self_iff, isFloor_in sc I A Z s d hX, h0, oneIf_1]
      exact q
    · rw [show flN s (j + 1) = flN s j + 0 by simp [flN, h0]] at q
      simp (disch := omega) only [s_X1_floors_0_0, s_X1_floors_0_1, s_X1_floors_0_2, s_X1_floors_0_3, s_X1_floors_0_5, s_X1_floors_0_7, s_X1_floors_0_10, s_X1_floors_0_11, s_X1_floors_0_12, s_X1_floors_0_13, s_X1_floors_0_16, s_X1_floors_0_19, s_X1_floors_0_20, s_X1_floors_0_21, s_X1_floors_0_24, s_X1_floors_0_27, s_X1_floors_0_28, ↓i_lt_t, ↓i_lt_f, ↓i_le_t, ↓i_le_f, ↓i_eq_t, ↓i_eq_f, ↓i_m1a, ↓i_m1b, ↓i_m1c, ↓i_m1d, ↓i_m1e, ↓i_m1f, c_lt, c_le, c_eq, if_pos, if_neg, bnd_some, Option.toList, List.nil_append, List.cons_append, c_add, m1_lt, m1_eq1, m1_eq2, m1_le, ret_1, ret_0, if_true, if_false, eq_self_iff, isFloor_in sc I A Z s d hX, oneIf_0]
      exact q
theorem floors_ok (sc : Nat × (Nat → Int32)) (I : Nat → Int32) (A : Nat → Nat → Int32) (Z : Int64) (s : Nat → Nat) (d : Nat) (hX : XH s d I A) : rs sc 8 0 [some (.ref 3), none, none] [] [] (hp I A Z) = some (some (.int (nI (flN s 12))), hp I A Z) := by
  have q := floors_loop sc I A Z s d hX 12 0 (by omega)
  simp (disch := omega) only [s_X1_floors_0_0, s_X1_floors_0_1, s_X1_floors_0_2, s_X1_floors_0_3, s_X1_floors_0_5, s_X1_floors_0_7, s_X1_floors_0_10, s_X1_floors_0_11, s_X1_floors_0_12, s_X1_floors_0_13, s_X1_floors_0_16, s_X1_floors_0_19, s_X1_floors_0_20, s_X1_floors_0_21, s_X1_floors_0_24, s_X1_floors_0_27, s_X1_floors_0_28, ↓i_lt_t, ↓i_lt_f, ↓i_le_t, ↓i_le_f, ↓i_eq_t, ↓i_eq_f, ↓i_m1a, ↓i_m1b, ↓i_m1c, ↓i_m1d, ↓i_m1e, ↓i_m1f, c_lt, c_le, c_eq, if_pos, if_neg, bnd_some, Option.toList, List.nil_append, List.cons_append, c_add, m1_lt, m1_eq1, m1_eq2, m1_le, ret_1, ret_0, if_true, if_false, eq_self_iff]
  exact q
theorem isFloor_no (sc : Nat × (Nat → Int32)) (I : Nat → Int32) (A : Nat → Nat → Int32) (Z : Int64) (h4 : I 4 = nI 0) (x : Int32) : rs sc 7 0 [some (.ref 3), some (.int x)] [] [] (hp I A Z) = some (some (.int (nI 0)), hp I A Z) := by
  simp (disch := omega) only [s_X1_isFloor_0_0, s_X1_isFloor_0_1, s_X1_isFloor_0_2, s_X1_isFloor_0_5, s_X1_isFloor_0_8, s_X1_isFloor_0_9, s_X1_isFloor_0_12, s_X1_isFloor_0_13, s_X1_isFloor_0_16, s_X1_isFloor_0_19, s_X1_isFloor_0_20, s_X1_isFloor_0_23, s_X1_isFloor_0_24_b0, s_X1_isFloor_0_24_b1, ↓i_lt_t, ↓i_lt_f, ↓i_le_t, ↓i_le_f, ↓i_eq_t, ↓i_eq_f, ↓i_m1a, ↓i_m1b, ↓i_m1c, ↓i_m1d, ↓i_m1e, ↓i_m1f, c_lt, c_le, c_eq, if_pos, if_neg, bnd_some, Option.toList, List.nil_append, List.cons_append, c_add, m1_lt, m1_eq1, m1_eq2, m1_le, ret_1, ret_0, if_true, if_false, eq_self_iff, has_no sc I A Z h4]
theorem floorsNo_loop (sc : Nat × (Nat → Int32)) (I : Nat → Int32) (A : Nat → Nat → Int32) (Z : Int64) (h4 : I 4 = nI 0) : ∀ (f j : Nat), j + f = 12 → rs sc 8 4 [some (.ref 3), some (.int (nI 0)), some (.int (nI j))] [] [] (hp I A Z) = some (some (.int (nI 0)), hp I A Z) := by
  intro f
  induction f with
  | zero =>
    intro j hj
    have e : j = 12 := by omega
    subst e
    simp (disch := omega) only [s_X1_floors_0_0, s_X1_floors_0_1, s_X1_floors_0_2, s_X1_floors_0_3, s_X1_floors_0_4, s_X1_floors_0_5, s_X1_floors_0_7, s_X1_floors_0_10, s_X1_floors_0_11, s_X1_floors_0_12, s_X1_floors_0_13, s_X1_floors_0_16, s_X1_floors_0_19, s_X1_floors_0_20, s_X1_floors_0_21, s_X1_floors_0_24, s_X1_floors_0_27, s_X1_floors_0_28, ↓i_lt_t, ↓i_lt_f, ↓i_le_t, ↓i_le_f, ↓i_eq_t, ↓i_eq_f, ↓i_m1a, ↓i_m1b, ↓i_m1c, ↓i_m1d, ↓i_m1e, ↓i_m1f, c_lt, c_le, c_eq, if_pos, if_neg, bnd_some, Option.toList, List.nil_append, List.cons_append, c_add, m1_lt, m1_eq1, m1_eq2, m1_le, ret_1, ret_0, if_true, if_false, eq_self_iff]
  | succ f ih =>
    intro j hj
    have q := ih (j + 1) (by omega)
    rw [s_X1_floors_0_4]
    simp (disch := omega) only [s_X1_floors_0_0, s_X1_floors_0_1, s_X1_floors_0_2, s_X1_floors_0_3, s_X1_floors_0_5, s_X1_floors_0_7, s_X1_floors_0_10, s_X1_floors_0_11, s_X1_floors_0_12, s_X1_floors_0_13, s_X1_floors_0_16, s_X1_floors_0_19, s_X1_floors_0_20, s_X1_floors_0_21, s_X1_floors_0_24, s_X1_floors_0_27, s_X1_floors_0_28, ↓i_lt_t, ↓i_lt_f, ↓i_le_t, ↓i_le_f, ↓i_eq_t, ↓i_eq_f, ↓i_m1a, ↓i_m1b, ↓i_m1c, ↓i_m1d, ↓i_m1e, ↓i_m1f, c_lt, c_le, c_eq, if_pos, if_neg, bnd_some, Option.toList, List.nil_append, List.cons_append, c_add, m1_lt, m1_eq1, m1_eq2, m1_le, ret_1, ret_0, if_true, if_false, eq_self_iff, isFloor_no sc I A Z h4, oneIf_0]
    exact q
theorem floors_no (sc : Nat × (Nat → Int32)) (I : Nat → Int32) (A : Nat → Nat → Int32) (Z : Int64) (h4 : I 4 = nI 0) : rs sc 8 0 [some (.ref 3), none, none] [] [] (hp I A Z) = some (some (.int (nI 0)), hp I A Z) := by
  have q := floorsNo_loop sc I A Z h4 12 0 (by omega)
  simp (disch := omega) only [s_X1_floors_0_0, s_X1_floors_0_1, s_X1_floors_0_2, s_X1_floors_0_3, s_X1_floors_0_5, s_X1_floors_0_7, s_X1_floors_0_10, s_X1_floors_0_11, s_X1_floors_0_12, s_X1_floors_0_13, s_X1_floors_0_16, s_X1_floors_0_19, s_X1_floors_0_20, s_X1_floors_0_21, s_X1_floors_0_24, s_X1_floors_0_27, s_X1_floors_0_28, ↓i_lt_t, ↓i_lt_f, ↓i_le_t, ↓i_le_f, ↓i_eq_t, ↓i_eq_f, ↓i_m1a, ↓i_m1b, ↓i_m1c, ↓i_m1d, ↓i_m1e, ↓i_m1f, c_lt, c_le, c_eq, if_pos, if_neg, bnd_some, Option.toList, List.nil_append, List.cons_append, c_add, m1_lt, m1_eq1, m1_eq2, m1_le, ret_1, ret_0, if_true, if_false, eq_self_iff]
  exact q
theorem mFloors_loop (sc : Nat × (Nat → Int32)) (I : Nat → Int32) (A : Nat → Nat → Int32) (Z : Int64) (s : Nat → Nat) (d k : Nat) (hX : MH s d k I A) : ∀ (f j : Nat), j + f = 12 → rs sc 93 4 [some (.ref 26), some (.int (nI (flN s j))), some (.int (nI j))] [] [] (hp I A Z) = some (some (.int (nI (flN s 12))), hp I A Z) := by
  intro f
  obtain ⟨g20, g21, gd1, gd9, gk, gs⟩ := id hX
  induction f with
  | zero =>
    intro j hj
    have e : j = 12 := by omega
    subst e
    simp (disch := omega) only [s_X8_floors_0_0, s_X8_floors_0_1, s_X8_floors_0_2, s_X8_floors_0_3, s_X8_floors_0_4, s_X8_floors_0_5, s_X8_floors_0_7, s_X8_floors_0_10, s_X8_floors_0_11, s_X8_floors_0_14, s_X8_floors_0_17, s_X8_floors_0_18, s_X8_floors_0_19, s_X8_floors_0_22, s_X8_floors_0_23, s_X8_floors_0_24, s_X8_floors_0_27, s_X8_floors_0_28, s_X8_floors_0_31, s_X8_floors_0_32, s_X8_floors_0_33, s_X8_floors_0_34, s_X8_floors_0_37, s_X8_floors_0_40, s_X8_floors_0_41, ↓i_lt_t, ↓i_lt_f, ↓i_le_t, ↓i_le_f, ↓i_eq_t, ↓i_eq_f, ↓i_m1a, ↓i_m1b, ↓i_m1c, ↓i_m1d, ↓i_m1e, ↓i_m1f, c_lt, c_le, c_eq, if_pos, if_neg, bnd_some, Option.toList, List.nil_append, List.cons_append, c_add, m1_lt, m1_eq1, m1_eq2, m1_le, ret_1, ret_0, if_true, if_false, eq_self_iff]
  | succ f ih =>
    intro j hj
    have q := ih (j + 1) (by omega)
    obtain ⟨gs1, gs2⟩ := gs j (by omega)
    rw [s_X8_floors_0_4]
    by_cases h0 : s j = 0
    · rw [show flN s (j + 1) = flN s j + 1 by simp [flN, h0]] at q
      simp (disch := omega) only [s_X8_floors_0_0, s_X8_floors_0_1, s_X8_floors_0_2, s_X8_floors_0_3, s_X8_floors_0_5, s_X8_floors_0_7, s_X8_floors_0_10, s_X8_floors_0_11, s_X8_floors_0_14, s_X8_floors_0_17, s_X8_floors_0_18, s_X8_floors_0_19, s_X8_floors_0_22, s_X8_floors_0_23, s_X8_floors_0_24, s_X8_floors_0_27, s_X8_floors_0_28, s_X8_floors_0_31, s_X8_floors_0_32, s_X8_floors_0_33, s_X8_floors_0_34, s_X8_floors_0_37, s_X8_floors_0_40, s_X8_floors_0_41, ↓i_lt_t, ↓i_lt_f, ↓i_le_t, ↓i_le_f, ↓i_eq_t, ↓i_eq_f, ↓i_m1a, ↓i_m1b, ↓i_m1c, ↓i_m1d, ↓i_m1e, ↓i_m1f, c_lt, c_le, c_eq, if_pos, if_neg, bnd_some, Option.toList, List.nil_append, List.cons_append, c_add, m1_lt, m1_eq1, m1_eq2, m1_le, ret_1, ret_0, if_true, if_false, eq_self_iff, g20, gs1, h0]
      exact q
    · rw [show flN s (j + 1) = flN s j + 0 by simp [flN, h0]] at q
      simp (disch := omega) only [s_X8_floors_0_0, s_X8_floors_0_1, s_X8_floors_0_2, s_X8_floors_0_3, s_X8_floors_0_5, s_X8_floors_0_7, s_X8_floors_0_10, s_X8_floors_0_11, s_X8_floors_0_14, s_X8_floors_0_17, s_X8_floors_0_18, s_X8_floors_0_19, s_X8_floors_0_22, s_X8_floors_0_23, s_X8_floors_0_24, s_X8_floors_0_27, s_X8_floors_0_28, s_X8_floors_0_31, s_X8_floors_0_32, s_X8_floors_0_33, s_X8_floors_0_34, s_X8_floors_0_37, s_X8_floors_0_40, s_X8_floors_0_41, ↓i_lt_t, ↓i_lt_f, ↓i_le_t, ↓i_le_f, ↓i_eq_t, ↓i_eq_f, ↓i_m1a, ↓i_m1b, ↓i_m1c, ↓i_m1d, ↓i_m1e, ↓i_m1f, c_lt, c_le, c_eq, if_pos, if_neg, bnd_some, Option.toList, List.nil_append, List.cons_append, c_add, m1_lt, m1_eq1, m1_eq2, m1_le, ret_1, ret_0, if_true, if_false, eq_self_iff, g20, gs1]
      exact q
theorem mFloors_ok (sc : Nat × (Nat → Int32)) (I : Nat → Int32) (A : Nat → Nat → Int32) (Z : Int64) (s : Nat → Nat) (d k : Nat) (hX : MH s d k I A) : rs sc 93 0 [some (.ref 26), none, none] [] [] (hp I A Z) = some (some (.int (nI (flN s 12))), hp I A Z) := by
  have q := mFloors_loop sc I A Z s d k hX 12 0 (by omega)
  simp (disch := omega) only [s_X8_floors_0_0, s_X8_floors_0_1, s_X8_floors_0_2, s_X8_floors_0_3, s_X8_floors_0_5, s_X8_floors_0_7, s_X8_floors_0_10, s_X8_floors_0_11, s_X8_floors_0_14, s_X8_floors_0_17, s_X8_floors_0_18, s_X8_floors_0_19, s_X8_floors_0_22, s_X8_floors_0_23, s_X8_floors_0_24, s_X8_floors_0_27, s_X8_floors_0_28, s_X8_floors_0_31, s_X8_floors_0_32, s_X8_floors_0_33, s_X8_floors_0_34, s_X8_floors_0_37, s_X8_floors_0_40, s_X8_floors_0_41, ↓i_lt_t, ↓i_lt_f, ↓i_le_t, ↓i_le_f, ↓i_eq_t, ↓i_eq_f, ↓i_m1a, ↓i_m1b, ↓i_m1c, ↓i_m1d, ↓i_m1e, ↓i_m1f, c_lt, c_le, c_eq, if_pos, if_neg, bnd_some, Option.toList, List.nil_append, List.cons_append, c_add, m1_lt, m1_eq1, m1_eq2, m1_le, ret_1, ret_0, if_true, if_false, eq_self_iff]
  exact q
theorem mFloors_no (sc : Nat × (Nat → Int32)) (I : Nat → Int32) (A : Nat → Nat → Int32) (Z : Int64) (h : I 20 = nI 0) : rs sc 93 0 [some (.ref 26), none, none] [] [] (hp I A Z) = some (some (.int (nI 0)), hp I A Z) := by
  simp (disch := omega) only [s_X8_floors_0_0, s_X8_floors_0_1, s_X8_floors_0_2, s_X8_floors_0_3, s_X8_floors_0_4, s_X8_floors_0_5, s_X8_floors_0_7, s_X8_floors_0_10, s_X8_floors_0_11, s_X8_floors_0_14, s_X8_floors_0_17, s_X8_floors_0_18, s_X8_floors_0_19, s_X8_floors_0_22, s_X8_floors_0_23, s_X8_floors_0_24, s_X8_floors_0_27, s_X8_floors_0_28, s_X8_floors_0_31, s_X8_floors_0_32, s_X8_floors_0_33, s_X8_floors_0_34, s_X8_floors_0_37, s_X8_floors_0_40, s_X8_floors_0_41, ↓i_lt_t, ↓i_lt_f, ↓i_le_t, ↓i_le_f, ↓i_eq_t, ↓i_eq_f, ↓i_m1a, ↓i_m1b, ↓i_m1c, ↓i_m1d, ↓i_m1e, ↓i_m1f, c_lt, c_le, c_eq, if_pos, if_neg, bnd_some, Option.toList, List.nil_append, List.cons_append, c_add, m1_lt, m1_eq1, m1_eq2, m1_le, ret_1, ret_0, if_true, if_false, eq_self_iff, h]
theorem allE_loop (sc : Nat × (Nat → Int32)) (I : Nat → Int32) (A : Nat → Nat → Int32) (Z : Int64) (m : Nat) (pc : Nat → Nat) (pe : Nat → Int32) (hX : XP m pc pe I A) : ∀ (f j : Nat), j + f = m → rs sc 35 4 [some (.ref 5), some (.int (seF pe j)), some (.int (nI j))] [] [] (hp I A Z) = some (some (.int (seF pe m)), hp I A Z) := by
  intro f
  obtain ⟨h7, hm, hp9⟩ := id hX
  induction f with
  | zero =>
    intro j hj
    have e : j = m := by omega
    subst e
    simp (disch := omega) only [s_X4_allEntries_0_0, s_X4_allEntries_0_1, s_X4_allEntries_0_2, s_X4_allEntries_0_3, s_X4_allEntries_0_4, s_X4_allEntries_0_5, s_X4_allEntries_0_6, s_X4_allEntries_0_9, s_X4_allEntries_0_12, s_X4_allEntries_0_13, s_X4_allEntries_0_14, s_X4_allEntries_0_17, s_X4_allEntries_0_18, s_X4_allEntries_0_21, s_X4_allEntries_0_22, s_X4_allEntries_0_23, s_X4_allEntries_0_26, s_X4_allEntries_0_29, s_X4_allEntries_0_30, ↓i_lt_t, ↓i_lt_f, ↓i_le_t, ↓i_le_f, ↓i_eq_t, ↓i_eq_f, ↓i_m1a, ↓i_m1b, ↓i_m1c, ↓i_m1d, ↓i_m1e, ↓i_m1f, c_lt, c_le, c_eq, if_pos, if_neg, bnd_some, Option.toList, List.nil_append, List.cons_append, c_add, m1_lt, m1_eq1, m1_eq2, m1_le, ret_1, ret_0, if_true, if_false, eq_self_iff, h7]
  | succ f ih =>
    intro j hj
    have q := ih (j + 1) (by omega)
    obtain ⟨p1, p2, p3⟩ := hp9 j (by omega)
    rw [s_X4_allEntries_0_4]
    simp (disch := omega) only [s_X4_allEntries_0_0, s_X4_allEntries_0_1, s_X4_allEntries_0_2, s_X4_allEntries_0_3, s_X4_allEntries_0_5, s_X4_allEntries_0_6, s_X4_allEntries_0_9, s_X4_allEntries_0_12, s_X4_allEntries_0_13, s_X4_allEntries_0_14, s_X4_allEntries_0_17, s_X4_allEntries_0_18, s_X4_allEntries_0_21, s_X4_allEntries_0_22, s_X4_allEntries_0_23, s_X4_allEntries_0_26, s_X4_allEntries_0_29, s_X4_allEntries_0_30, ↓i_lt_t, ↓i_lt_f, ↓i_le_t, ↓i_le_f, ↓i_eq_t, ↓i_eq_f, ↓i_m1a, ↓i_m1b, ↓i_m1c, ↓i_m1d, ↓i_m1e, ↓i_m1f, c_lt, c_le, c_eq, if_pos, if_neg, bnd_some, Option.toList, List.nil_append, List.cons_append, c_add, m1_lt, m1_eq1, m1_eq2, m1_le, ret_1, ret_0, if_true, if_false, eq_self_iff, h7, at_9, p3]
    exact q
theorem allE_ok (sc : Nat × (Nat → Int32)) (I : Nat → Int32) (A : Nat → Nat → Int32) (Z : Int64) (m : Nat) (pc : Nat → Nat) (pe : Nat → Int32) (hX : XP m pc pe I A) : rs sc 35 0 [some (.ref 5), none, none] [] [] (hp I A Z) = some (some (.int (seF pe m)), hp I A Z) := by
  have q := allE_loop sc I A Z m pc pe hX m 0 (by omega)
  simp (disch := omega) only [s_X4_allEntries_0_0, s_X4_allEntries_0_1, s_X4_allEntries_0_2, s_X4_allEntries_0_3, s_X4_allEntries_0_5, s_X4_allEntries_0_6, s_X4_allEntries_0_9, s_X4_allEntries_0_12, s_X4_allEntries_0_13, s_X4_allEntries_0_14, s_X4_allEntries_0_17, s_X4_allEntries_0_18, s_X4_allEntries_0_21, s_X4_allEntries_0_22, s_X4_allEntries_0_23, s_X4_allEntries_0_26, s_X4_allEntries_0_29, s_X4_allEntries_0_30, ↓i_lt_t, ↓i_lt_f, ↓i_le_t, ↓i_le_f, ↓i_eq_t, ↓i_eq_f, ↓i_m1a, ↓i_m1b, ↓i_m1c, ↓i_m1d, ↓i_m1e, ↓i_m1f, c_lt, c_le, c_eq, if_pos, if_neg, bnd_some, Option.toList, List.nil_append, List.cons_append, c_add, m1_lt, m1_eq1, m1_eq2, m1_le, ret_1, ret_0, if_true, if_false, eq_self_iff]
  exact q
theorem mAllE_loop (sc : Nat × (Nat → Int32)) (I : Nat → Int32) (A : Nat → Nat → Int32) (Z : Int64) (m : Nat) (pc : Nat → Nat) (pe : Nat → Int32) (hX : MP m pc pe I A) : ∀ (f j : Nat), j + f = m → rs sc 132 4 [some (.ref 26), some (.int (seF pe j)), some (.int (nI j))] [] [] (hp I A Z) = some (some (.int (seF pe m)), hp I A Z) := by
  intro f
  obtain ⟨h7, hm, hp9⟩ := id hX
  induction f with
  | zero =>
    intro j hj
    have e : j = m := by omega
    subst e
    simp (disch := omega) only [s_X8_enteredAll_0_0, s_X8_enteredAll_0_1, s_X8_enteredAll_0_2, s_X8_enteredAll_0_3, s_X8_enteredAll_0_4, s_X8_enteredAll_0_5, s_X8_enteredAll_0_6, s_X8_enteredAll_0_9, s_X8_enteredAll_0_12, s_X8_enteredAll_0_13, s_X8_enteredAll_0_14, s_X8_enteredAll_0_17, s_X8_enteredAll_0_18, s_X8_enteredAll_0_19, s_X8_enteredAll_0_20, s_X8_enteredAll_0_21, s_X8_enteredAll_0_22, s_X8_enteredAll_0_23, s_X8_enteredAll_0_24, s_X8_enteredAll_0_25, s_X8_enteredAll_0_28, s_X8_enteredAll_0_31, s_X8_enteredAll_0_32, ↓i_lt_t, ↓i_lt_f, ↓i_le_t, ↓i_le_f, ↓i_eq_t, ↓i_eq_f, ↓i_m1a, ↓i_m1b, ↓i_m1c, ↓i_m1d, ↓i_m1e, ↓i_m1f, c_lt, c_le, c_eq, if_pos, if_neg, bnd_some, Option.toList, List.nil_append, List.cons_append, c_add, m1_lt, m1_eq1, m1_eq2, m1_le, ret_1, ret_0, if_true, if_false, eq_self_iff, h7]
  | succ f ih =>
    intro j hj
    have q := ih (j + 1) (by omega)
    obtain ⟨p1, p2, p3⟩ := hp9 j (by omega)
    rw [s_X8_enteredAll_0_4]
    simp (disch := omega) only [s_X8_enteredAll_0_0, s_X8_enteredAll_0_1, s_X8_enteredAll_0_2, s_X8_enteredAll_0_3, s_X8_enteredAll_0_5, s_X8_enteredAll_0_6, s_X8_enteredAll_0_9, s_X8_enteredAll_0_12, s_X8_enteredAll_0_13, s_X8_enteredAll_0_14, s_X8_enteredAll_0_17, s_X8_enteredAll_0_18, s_X8_enteredAll_0_19, s_X8_enteredAll_0_20, s_X8_enteredAll_0_21, s_X8_enteredAll_0_22, s_X8_enteredAll_0_23, s_X8_enteredAll_0_24, s_X8_enteredAll_0_25, s_X8_enteredAll_0_28, s_X8_enteredAll_0_31, s_X8_enteredAll_0_32, ↓i_lt_t, ↓i_lt_f, ↓i_le_t, ↓i_le_f, ↓i_eq_t, ↓i_eq_f, ↓i_m1a, ↓i_m1b, ↓i_m1c, ↓i_m1d, ↓i_m1e, ↓i_m1f, c_lt, c_le, c_eq, if_pos, if_neg, bnd_some, Option.toList, List.nil_append, List.cons_append, c_add, m1_lt, m1_eq1, m1_eq2, m1_le, ret_1, ret_0, if_true, if_false, eq_self_iff, h7, c_mul, p3]
    exact q
theorem mAllE_ok (sc : Nat × (Nat → Int32)) (I : Nat → Int32) (A : Nat → Nat → Int32) (Z : Int64) (m : Nat) (pc : Nat → Nat) (pe : Nat → Int32) (hX : MP m pc pe I A) : rs sc 132 0 [some (.ref 26), none, none] [] [] (hp I A Z) = some (some (.int (seF pe m)), hp I A Z) := by
  have q := mAllE_loop sc I A Z m pc pe hX m 0 (by omega)
  simp (disch := omega) only [s_X8_enteredAll_0_0, s_X8_enteredAll_0_1, s_X8_enteredAll_0_2, s_X8_enteredAll_0_3, s_X8_enteredAll_0_5, s_X8_enteredAll_0_6, s_X8_enteredAll_0_9, s_X8_enteredAll_0_12, s_X8_enteredAll_0_13, s_X8_enteredAll_0_14, s_X8_enteredAll_0_17, s_X8_enteredAll_0_18, s_X8_enteredAll_0_19, s_X8_enteredAll_0_20, s_X8_enteredAll_0_21, s_X8_enteredAll_0_22, s_X8_enteredAll_0_23, s_X8_enteredAll_0_24, s_X8_enteredAll_0_25, s_X8_enteredAll_0_28, s_X8_enteredAll_0_31, s_X8_enteredAll_0_32, ↓i_lt_t, ↓i_lt_f, ↓i_le_t, ↓i_le_f, ↓i_eq_t, ↓i_eq_f, ↓i_m1a, ↓i_m1b, ↓i_m1c, ↓i_m1d, ↓i_m1e, ↓i_m1f, c_lt, c_le, c_eq, if_pos, if_neg, bnd_some, Option.toList, List.nil_append, List.cons_append, c_add, m1_lt, m1_eq1, m1_eq2, m1_le, ret_1, ret_0, if_true, if_false, eq_self_iff]
  exact q
theorem pplAt_loop (sc : Nat × (Nat → Int32)) (I : Nat → Int32) (A : Nat → Nat → Int32) (Z : Int64) (m : Nat) (pc : Nat → Nat) (pe : Nat → Int32) (hX : XP m pc pe I A) (c : Nat) (hc : c < 12) : ∀ (f j : Nat), j + f = m → rs sc 34 4 [some (.ref 5), some (.int (nI c)), some (.int (nI (ppN pc c j))), some (.int (nI j))] [] [] (hp I A Z) = some (some (.int (nI (ppN pc c m))), hp I A Z) := by
  intro f
  obtain ⟨h7, hm, hp9⟩ := id hX
  induction f with
  | zero =>
    intro j hj
    have e : j = m := by omega
    subst e
    simp (disch := omega) only [s_X4_peopleAt_0_0, s_X4_peopleAt_0_1, s_X4_peopleAt_0_2, s_X4_peopleAt_0_3, s_X4_peopleAt_0_4, s_X4_peopleAt_0_5, s_X4_peopleAt_0_6, s_X4_peopleAt_0_9, s_X4_peopleAt_0_12, s_X4_peopleAt_0_13, s_X4_peopleAt_0_14, s_X4_peopleAt_0_17, s_X4_peopleAt_0_18, s_X4_peopleAt_0_21, s_X4_peopleAt_0_22, s_X4_peopleAt_0_25, s_X4_peopleAt_0_26, s_X4_peopleAt_0_29, s_X4_peopleAt_0_30, s_X4_peopleAt_0_33, s_X4_peopleAt_0_34, s_X4_peopleAt_0_35, s_X4_peopleAt_0_38, s_X4_peopleAt_0_41, s_X4_peopleAt_0_42, ↓i_lt_t, ↓i_lt_f, ↓i_le_t, ↓i_le_f, ↓i_eq_t, ↓i_eq_f, ↓i_m1a, ↓i_m1b, ↓i_m1c, ↓i_m1d, ↓i_m1e, ↓i_m1f, c_lt, c_le, c_eq, if_pos, if_neg, bnd_some, Option.toList, List.nil_append, List.cons_append, c_add, m1_lt, m1_eq1, m1_eq2, m1_le, ret_1, ret_0, if_true, if_false, eq_self_iff, h7]
  | succ f ih =>
    intro j hj
    have q := ih (j + 1) (by omega)
    obtain ⟨p1, p2, p3⟩ := hp9 j (by omega)
    rw [s_X4_peopleAt_0_4]
    by_cases h0 : pc j = c
    · rw [show ppN pc c (j + 1) = ppN pc c j + 1 by simp [ppN, h0]] at q
      simp (disch := omega) only [s_X4_peopleAt_0_0, s_X4_peopleAt_0_1, s_X4_peopleAt_0_2, s_X4_peopleAt_0_3, s_X4_peopleAt_0_5, s_X4_peopleAt_0_6, s_X4_peopleAt_0_9, s_X4_peopleAt_0_12, s_X4_peopleAt_0_13, s_X4_peopleAt_0_14, s_X4_peopleAt_0_17, s_X4_peopleAt_0_18, s_X4_peopleAt_0_21, s_X4_peopleAt_0_22, s_X4_peopleAt_0_25, s_X4_peopleAt_0_26, s_X4_peopleAt_0_29, s_X4_peopleAt_0_30, s_X4_peopleAt_0_33, s_X4_peopleAt_0_34, s_X4_peopleAt_0_35, s_X4_peopleAt_0_38, s_X4_peopleAt_0_41, s_X4_peopleAt_0_42, ↓i_lt_t, ↓i_lt_f, ↓i_le_t, ↓i_le_f, ↓i_eq_t, ↓i_eq_f, ↓i_m1a, ↓i_m1b, ↓i_m1c, ↓i_m1d, ↓i_m1e, ↓i_m1f, c_lt, c_le, c_eq, if_pos, if_neg, bnd_some, Option.toList, List.nil_append, List.cons_append, c_add, m1_lt, m1_eq1, m1_eq2, m1_le, ret_1, ret_0, if_true, if_false, eq_self_iff, h7, at_8, p2, h0, oneIf_1]
      exact q
    · rw [show ppN pc c (j + 1) = ppN pc c j + 0 by simp [ppN, h0]] at q
      simp (disch := omega) only [s_X4_peopleAt_0_0, s_X4_peopleAt_0_1, s_X4_peopleAt_0_2, s_X4_peopleAt_0_3, s_X4_peopleAt_0_5, s_X4_peopleAt_0_6, s_X4_peopleAt_0_9, s_X4_peopleAt_0_12, s_X4_peopleAt_0_13, s_X4_peopleAt_0_14, s_X4_peopleAt_0_17, s_X4_peopleAt_0_18, s_X4_peopleAt_0_21, s_X4_peopleAt_0_22, s_X4_peopleAt_0_25, s_X4_peopleAt_0_26, s_X4_peopleAt_0_29, s_X4_peopleAt_0_30, s_X4_peopleAt_0_33, s_X4_peopleAt_0_34, s_X4_peopleAt_0_35, s_X4_peopleAt_0_38, s_X4_peopleAt_0_41, s_X4_peopleAt_0_42, ↓i_lt_t, ↓i_lt_f, ↓i_le_t, ↓i_le_f, ↓i_eq_t, ↓i_eq_f, ↓i_m1a, ↓i_m1b, ↓i_m1c, ↓i_m1d, ↓i_m1e, ↓i_m1f, c_lt, c_le, c_eq, if_pos, if_neg, bnd_some, Option.toList, List.nil_append, List.cons_append, c_add, m1_lt, m1_eq1, m1_eq2, m1_le, ret_1, ret_0, if_true, if_false, eq_self_iff, h7, at_8, p2, oneIf_0]
      exact q
theorem pplAt_ok (sc : Nat × (Nat → Int32)) (I : Nat → Int32) (A : Nat → Nat → Int32) (Z : Int64) (m : Nat) (pc : Nat → Nat) (pe : Nat → Int32) (hX : XP m pc pe I A) (c : Nat) (hc : c < 12) : rs sc 34 0 [some (.ref 5), some (.int (nI c)), none, none] [] [] (hp I A Z) = some (some (.int (nI (ppN pc c m))), hp I A Z) := by
  have q := pplAt_loop sc I A Z m pc pe hX c hc m 0 (by omega)
  simp (disch := omega) only [s_X4_peopleAt_0_0, s_X4_peopleAt_0_1, s_X4_peopleAt_0_2, s_X4_peopleAt_0_3, s_X4_peopleAt_0_5, s_X4_peopleAt_0_6, s_X4_peopleAt_0_9, s_X4_peopleAt_0_12, s_X4_peopleAt_0_13, s_X4_peopleAt_0_14, s_X4_peopleAt_0_17, s_X4_peopleAt_0_18, s_X4_peopleAt_0_21, s_X4_peopleAt_0_22, s_X4_peopleAt_0_25, s_X4_peopleAt_0_26, s_X4_peopleAt_0_29, s_X4_peopleAt_0_30, s_X4_peopleAt_0_33, s_X4_peopleAt_0_34, s_X4_peopleAt_0_35, s_X4_peopleAt_0_38, s_X4_peopleAt_0_41, s_X4_peopleAt_0_42, ↓i_lt_t, ↓i_lt_f, ↓i_le_t, ↓i_le_f, ↓i_eq_t, ↓i_eq_f, ↓i_m1a, ↓i_m1b, ↓i_m1c, ↓i_m1d, ↓i_m1e, ↓i_m1f, c_lt, c_le, c_eq, if_pos, if_neg, bnd_some, Option.toList, List.nil_append, List.cons_append, c_add, m1_lt, m1_eq1, m1_eq2, m1_le, ret_1, ret_0, if_true, if_false, eq_self_iff]
  exact q
/-- which clerks see a cell, as bits (left: which of them left for right) -/
def seeB (s : Nat → Nat) (d k : Nat) (cc cw : Nat → Nat) (left : Bool) (c : Nat) : Nat → Int32
  | 0 => nI 0
  | j + 1 => seeB s d k cc cw left c j ||| (tb (if left then (sight s d k (fun _ => 0) (cc j) (cw j)).2.1 else (sight s d k (fun _ => 0) (cc j) (cw j)).1) c <<< (nI j &&& 31))
theorem seeing_loop (sc : Nat × (Nat → Int32)) (A : Nat → Nat → Int32) (Z : Int64) (s : Nat → Nat) (d : Nat) (I0 : Nat → Int32) (hX : XH s d I0 A) (n k : Nat) (cc cw : Nat → Nat) (hC : XC n k cc cw I0 A) (c : Nat) (hc12 : c < 12) (left : Bool) :
    ∀ (f j : Nat) (I : Nat → Int32), j + f = n → Ag I I0 →
      ∃ I' : Nat → Int32, rs sc 73 5 [some (.ref 0), some (.int (nI c)), some (.int (nI (if left then 1 else 0))), some (.int (seeB s d k cc cw left c j)), some (.int (nI j))] [] [] (hp I A Z) = some (some (.int (seeB s d k cc cw left c n)), hp I' A Z) ∧ Ag I' I0 := by
  intro f
  induction f with
  | zero =>
    intro j I hj hag
    obtain ⟨h6, hn, h9, hk, hc⟩ := hC.ag hag
    have e : j = n := by omega
    subst e
    refine ⟨I, ?_, hag⟩
    simp (disch := omega) only [s_X7_clerksSeeing_0_0, s_X7_clerksSeeing_0_1, s_X7_clerksSeeing_0_2, s_X7_clerksSeeing_0_3, s_X7_clerksSeeing_0_5, s_X7_clerksSeeing_0_7, s_X7_clerksSeeing_0_8, s_X7_clerksSeeing_0_11, s_X7_clerksSeeing_0_14, s_X7_clerksSeeing_0_17, s_X7_clerksSeeing_0_18, s_X7_clerksSeeing_0_21, s_X7_clerksSeeing_0_22, s_X7_clerksSeeing_0_25, s_X7_clerksSeeing_0_26, s_X7_clerksSeeing_0_29, s_X7_clerksSeeing_0_31, s_X7_clerksSeeing_0_32, s_X7_clerksSeeing_0_35, s_X7_clerksSeeing_0_36, s_X7_clerksSeeing_0_37, s_X7_clerksSeeing_0_40, s_X7_clerksSeeing_0_41, s_X7_clerksSeeing_0_44, s_X7_clerksSeeing_0_47, s_X7_clerksSeeing_0_50, s_X7_clerksSeeing_0_51, s_X7_clerksSeeing_0_54, s_X7_clerksSeeing_0_57, s_X7_clerksSeeing_0_58, s_X7_clerksSeeing_0_61, s_X7_clerksSeeing_0_63, s_X7_clerksSeeing_0_64, s_X7_clerksSeeing_0_65, s_X7_clerksSeeing_0_66, s_X7_clerksSeeing_0_69, s_X7_clerksSeeing_0_72, s_X7_clerksSeeing_0_73, ↓i_lt_t, ↓i_lt_f, ↓i_le_t, ↓i_le_f, ↓i_eq_t, ↓i_eq_f, ↓i_m1a, ↓i_m1b, ↓i_m1c, ↓i_m1d, ↓i_m1e, ↓i_m1f, c_lt, c_le, c_eq, if_pos, if_neg, bnd_some, Option.toList, List.nil_append, List.cons_append, c_add, m1_lt, m1_eq1, m1_eq2, m1_le, ret_1, ret_0, if_true, if_false, eq_self_iff, h6]
  | succ f ih =>
    intro j I hj hag
    obtain ⟨h6, hn, h9, hk, hc⟩ := hC.ag hag
    obtain ⟨I1, r1, r2, r3, r4, r5⟩ := ofClerk_ok sc I A Z s d (hX.ag hag) n k cc cw (hC.ag hag) (nI 0) (fun _ => 0) (fun c hc => ⟨tb0 c hc, by decide⟩) j (by omega)
    obtain ⟨I', q1, q2⟩ := ih (j + 1) I1 (by omega) (r2.tr hag)
    refine ⟨I', ?_, q2⟩
    rw [s_X7_clerksSeeing_0_5]
    cases left with
    | false =>
      simp (disch := omega) only [s_X7_clerksSeeing_0_0, s_X7_clerksSeeing_0_1, s_X7_clerksSeeing_0_2, s_X7_clerksSeeing_0_3, s_X7_clerksSeeing_0_7, s_X7_clerksSeeing_0_8, s_X7_clerksSeeing_0_11, s_X7_clerksSeeing_0_14, s_X7_clerksSeeing_0_17, s_X7_clerksSeeing_0_18, s_X7_clerksSeeing_0_21, s_X7_clerksSeeing_0_22, s_X7_clerksSeeing_0_25, s_X7_clerksSeeing_0_26, s_X7_clerksSeeing_0_29, s_X7_clerksSeeing_0_31, s_X7_clerksSeeing_0_32, s_X7_clerksSeeing_0_35, s_X7_clerksSeeing_0_36, s_X7_clerksSeeing_0_37, s_X7_clerksSeeing_0_40, s_X7_clerksSeeing_0_41, s_X7_clerksSeeing_0_44, s_X7_clerksSeeing_0_47, s_X7_clerksSeeing_0_50, s_X7_clerksSeeing_0_51, s_X7_clerksSeeing_0_54, s_X7_clerksSeeing_0_57, s_X7_clerksSeeing_0_58, s_X7_clerksSeeing_0_61, s_X7_clerksSeeing_0_63, s_X7_clerksSeeing_0_64, s_X7_clerksSeeing_0_65, s_X7_clerksSeeing_0_66, s_X7_clerksSeeing_0_69, s_X7_clerksSeeing_0_72, s_X7_clerksSeeing_0_73, ↓i_lt_t, ↓i_lt_f, ↓i_le_t, ↓i_le_f, ↓i_eq_t, ↓i_eq_f, ↓i_m1a, ↓i_m1b, ↓i_m1c, ↓i_m1d, ↓i_m1e, ↓i_m1f, c_lt, c_le, c_eq, if_pos, if_neg, bnd_some, Option.toList, List.nil_append, List.cons_append, c_add, m1_lt, m1_eq1, m1_eq2, m1_le, ret_1, ret_0, if_true, if_false, eq_self_iff, h6, r1, r3, bit_in, Bool.false_eq_true]
      exact q1
    | true =>
      simp (disch := omega) only [s_X7_clerksSeeing_0_0, s_X7_clerksSeeing_0_1, s_X7_clerksSeeing_0_2, s_X7_clerksSeeing_0_3, s_X7_clerksSeeing_0_7, s_X7_clerksSeeing_0_8, s_X7_clerksSeeing_0_11, s_X7_clerksSeeing_0_14, s_X7_clerksSeeing_0_17, s_X7_clerksSeeing_0_18, s_X7_clerksSeeing_0_21, s_X7_clerksSeeing_0_22, s_X7_clerksSeeing_0_25, s_X7_clerksSeeing_0_26, s_X7_clerksSeeing_0_29, s_X7_clerksSeeing_0_31, s_X7_clerksSeeing_0_32, s_X7_clerksSeeing_0_35, s_X7_clerksSeeing_0_36, s_X7_clerksSeeing_0_37, s_X7_clerksSeeing_0_40, s_X7_clerksSeeing_0_41, s_X7_clerksSeeing_0_44, s_X7_clerksSeeing_0_47, s_X7_clerksSeeing_0_50, s_X7_clerksSeeing_0_51, s_X7_clerksSeeing_0_54, s_X7_clerksSeeing_0_57, s_X7_clerksSeeing_0_58, s_X7_clerksSeeing_0_61, s_X7_clerksSeeing_0_63, s_X7_clerksSeeing_0_64, s_X7_clerksSeeing_0_65, s_X7_clerksSeeing_0_66, s_X7_clerksSeeing_0_69, s_X7_clerksSeeing_0_72, s_X7_clerksSeeing_0_73, ↓i_lt_t, ↓i_lt_f, ↓i_le_t, ↓i_le_f, ↓i_eq_t, ↓i_eq_f, ↓i_m1a, ↓i_m1b, ↓i_m1c, ↓i_m1d, ↓i_m1e, ↓i_m1f, c_lt, c_le, c_eq, if_pos, if_neg, bnd_some, Option.toList, List.nil_append, List.cons_append, c_add, m1_lt, m1_eq1, m1_eq2, m1_le, ret_1, ret_0, if_true, if_false, eq_self_iff, h6, r1, r4, bit_in]
      exact q1
theorem seeing_ok (sc : Nat × (Nat → Int32)) (I : Nat → Int32) (A : Nat → Nat → Int32) (Z : Int64) (s : Nat → Nat) (d : Nat) (hX : XH s d I A) (n k : Nat) (cc cw : Nat → Nat) (hC : XC n k cc cw I A) (c : Nat) (hc12 : c < 12) (left : Bool) :
    ∃ I' : Nat → Int32, rs sc 73 0 [some (.ref 0), some (.int (nI c)), some (.int (nI (if left then 1 else 0))), none, none] [] [] (hp I A Z) = some (some (.int (seeB s d k cc cw left c n)), hp I' A Z) ∧ Ag I' I := by
  obtain ⟨I', q1, q2⟩ := seeing_loop sc A Z s d I hX n k cc cw hC c hc12 left n 0 I (by omega) (Ag.rf I)
  refine ⟨I', ?_, q2⟩
  simp (disch := omega) only [s_X7_clerksSeeing_0_0, s_X7_clerksSeeing_0_1, s_X7_clerksSeeing_0_2, s_X7_clerksSeeing_0_3, s_X7_clerksSeeing_0_7, s_X7_clerksSeeing_0_8, s_X7_clerksSeeing_0_11, s_X7_clerksSeeing_0_14, s_X7_clerksSeeing_0_17, s_X7_clerksSeeing_0_18, s_X7_clerksSeeing_0_21, s_X7_clerksSeeing_0_22, s_X7_clerksSeeing_0_25, s_X7_clerksSeeing_0_26, s_X7_clerksSeeing_0_29, s_X7_clerksSeeing_0_31, s_X7_clerksSeeing_0_32, s_X7_clerksSeeing_0_35, s_X7_clerksSeeing_0_36, s_X7_clerksSeeing_0_37, s_X7_clerksSeeing_0_40, s_X7_clerksSeeing_0_41, s_X7_clerksSeeing_0_44, s_X7_clerksSeeing_0_47, s_X7_clerksSeeing_0_50, s_X7_clerksSeeing_0_51, s_X7_clerksSeeing_0_54, s_X7_clerksSeeing_0_57, s_X7_clerksSeeing_0_58, s_X7_clerksSeeing_0_61, s_X7_clerksSeeing_0_63, s_X7_clerksSeeing_0_64, s_X7_clerksSeeing_0_65, s_X7_clerksSeeing_0_66, s_X7_clerksSeeing_0_69, s_X7_clerksSeeing_0_72, s_X7_clerksSeeing_0_73, ↓i_lt_t, ↓i_lt_f, ↓i_le_t, ↓i_le_f, ↓i_eq_t, ↓i_eq_f, ↓i_m1a, ↓i_m1b, ↓i_m1c, ↓i_m1d, ↓i_m1e, ↓i_m1f, c_lt, c_le, c_eq, if_pos, if_neg, bnd_some, Option.toList, List.nil_append, List.cons_append, c_add, m1_lt, m1_eq1, m1_eq2, m1_le, ret_1, ret_0, if_true, if_false, eq_self_iff]
  exact q1
