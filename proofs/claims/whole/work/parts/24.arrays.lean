/-! WHOLE ARRAYS: fill and copy (by wip/whole/mk24.py) -/
def setA (A : Nat → Nat → Int32) (p : Nat) (g : Nat → Int32) : Nat → Nat → Int32 := fun q => if q = p then g else A q
theorem sa_s (A : Nat → Nat → Int32) (p : Nat) (g : Nat → Int32) : setA A p g p = g := if_pos rfl
theorem sa_n {A : Nat → Nat → Int32} {p q : Nat} {g : Nat → Int32} (h : q ≠ p) : setA A p g q = A q := if_neg h
theorem sa_id (A : Nat → Nat → Int32) (p : Nat) : setA A p (A p) = A := by
  funext q
  by_cases h : q = p
  · subst h; exact sa_s A q _
  · exact sa_n h
theorem sa_sa (A : Nat → Nat → Int32) (p : Nat) (g h : Nat → Int32) : setA (setA A p g) p h = setA A p h := by
  funext q
  by_cases e : q = p
  · subst e; rw [sa_s, sa_s]
  · rw [sa_n e, sa_n e, sa_n e]
theorem ua_sa (A : Nat → Nat → Int32) (p : Nat) (g : Nat → Int32) (j : Nat) (v : Int32) : ua (setA A p g) p j v = setA A p (upd g j v) := by
  funext q
  unfold ua
  by_cases e : q = p
  · subst e; rw [if_pos rfl, sa_s, sa_s]
  · rw [if_neg e, sa_n e, sa_n e]
theorem ua_set (A : Nat → Nat → Int32) (p : Nat) (j : Nat) (v : Int32) : ua A p j v = setA A p (upd (A p) j v) := rfl
def EqN (N : Nat) (f g : Nat → Int32) : Prop := ∀ j, j < N → f j = g j
theorem mcp_29_37 (sc : Nat × (Nat → Int32)) (I : Nat → Int32) (A : Nat → Nat → Int32) (Z : Int64) : ∃ g : Nat → Int32, rs sc 131 0 [some (.ref 29), some (.ref 37), none] [] [] (hp I A Z) = some (none, hp I (setA A 37 g) Z) ∧ ∀ j, j < 6 → g j = A 29 j := by
  have lp : ∀ (f j : Nat) (g : Nat → Int32), j + f = 6 → (∀ i, i < j → g i = A 29 i) → ∃ g' : Nat → Int32, rs sc 131 2 [some (.ref 29), some (.ref 37), some (.int (nI j))] [] [] (hp I (setA A 37 g) Z) = some (none, hp I (setA A 37 g') Z) ∧ ∀ i, i < 6 → g' i = A 29 i := by
    intro f
    induction f with
    | zero =>
      intro j g hj hg
      have e : j = 6 := by omega
      subst e
      exact ⟨g, by simp (disch := omega) only [s_X8_copy_0_0, s_X8_copy_0_1, s_X8_copy_0_2, s_X8_copy_0_3, s_X8_copy_0_4, s_X8_copy_0_5, s_X8_copy_0_8, s_X8_copy_0_9, s_X8_copy_0_10, s_X8_copy_0_11, s_X8_copy_0_12, s_X8_copy_0_13, s_X8_copy_0_14, s_X8_copy_0_17, s_X8_copy_0_20, ↓i_lt_t, ↓i_lt_f, ↓i_le_t, ↓i_le_f, ↓i_eq_t, ↓i_eq_f, ↓i_m1a, ↓i_m1b, ↓i_m1c, ↓i_m1d, ↓i_m1e, ↓i_m1f, c_lt, c_le, c_eq, if_pos, if_neg, bnd_some, Option.toList, List.nil_append, List.cons_append, c_add, m1_lt, m1_eq1, m1_eq2, m1_le, ret_1, ret_0, if_true, if_false, eq_self_iff], hg⟩
    | succ f ih =>
      intro j g hj hg
      obtain ⟨g', q1, q2⟩ := ih (j + 1) (upd g j (A 29 j)) (by omega) (fun i hi => by
        by_cases e : i = j
        · subst e; exact pk_us
        · rw [pk_un e]; exact hg i (by omega))
      refine ⟨g', ?_, q2⟩
      rw [s_X8_copy_0_2]
      simp (disch := omega) only [s_X8_copy_0_0, s_X8_copy_0_1, s_X8_copy_0_3, s_X8_copy_0_4, s_X8_copy_0_5, s_X8_copy_0_8, s_X8_copy_0_9, s_X8_copy_0_10, s_X8_copy_0_11, s_X8_copy_0_12, s_X8_copy_0_13, s_X8_copy_0_14, s_X8_copy_0_17, s_X8_copy_0_20, ↓i_lt_t, ↓i_lt_f, ↓i_le_t, ↓i_le_f, ↓i_eq_t, ↓i_eq_f, ↓i_m1a, ↓i_m1b, ↓i_m1c, ↓i_m1d, ↓i_m1e, ↓i_m1f, c_lt, c_le, c_eq, if_pos, if_neg, bnd_some, Option.toList, List.nil_append, List.cons_append, c_add, m1_lt, m1_eq1, m1_eq2, m1_le, ret_1, ret_0, if_true, if_false, eq_self_iff, sa_n, ua_sa]
      exact q1
  obtain ⟨g, q1, q2⟩ := lp 6 0 (A 37) (by omega) (fun i hi => by omega)
  rw [sa_id] at q1
  refine ⟨g, ?_, q2⟩
  simp (disch := omega) only [s_X8_copy_0_0, s_X8_copy_0_1, s_X8_copy_0_3, s_X8_copy_0_4, s_X8_copy_0_5, s_X8_copy_0_8, s_X8_copy_0_9, s_X8_copy_0_10, s_X8_copy_0_11, s_X8_copy_0_12, s_X8_copy_0_13, s_X8_copy_0_14, s_X8_copy_0_17, s_X8_copy_0_20, ↓i_lt_t, ↓i_lt_f, ↓i_le_t, ↓i_le_f, ↓i_eq_t, ↓i_eq_f, ↓i_m1a, ↓i_m1b, ↓i_m1c, ↓i_m1d, ↓i_m1e, ↓i_m1f, c_lt, c_le, c_eq, if_pos, if_neg, bnd_some, Option.toList, List.nil_append, List.cons_append, c_add, m1_lt, m1_eq1, m1_eq2, m1_le, ret_1, ret_0, if_true, if_false, eq_self_iff]
  exact q1
theorem mcp_30_38 (sc : Nat × (Nat → Int32)) (I : Nat → Int32) (A : Nat → Nat → Int32) (Z : Int64) : ∃ g : Nat → Int32, rs sc 131 0 [some (.ref 30), some (.ref 38), none] [] [] (hp I A Z) = some (none, hp I (setA A 38 g) Z) ∧ ∀ j, j < 6 → g j = A 30 j := by
  have lp : ∀ (f j : Nat) (g : Nat → Int32), j + f = 6 → (∀ i, i < j → g i = A 30 i) → ∃ g' : Nat → Int32, rs sc 131 2 [some (.ref 30), some (.ref 38), some (.int (nI j))] [] [] (hp I (setA A 38 g) Z) = some (none, hp I (setA A 38 g') Z) ∧ ∀ i, i < 6 → g' i = A 30 i := by
    intro f
    induction f with
    | zero =>
      intro j g hj hg
      have e : j = 6 := by omega
      subst e
      exact ⟨g, by simp (disch := omega) only [s_X8_copy_1_0, s_X8_copy_1_1, s_X8_copy_1_2, s_X8_copy_1_3, s_X8_copy_1_4, s_X8_copy_1_5, s_X8_copy_1_8, s_X8_copy_1_9, s_X8_copy_1_10, s_X8_copy_1_11, s_X8_copy_1_12, s_X8_copy_1_13, s_X8_copy_1_14, s_X8_copy_1_17, s_X8_copy_1_20, ↓i_lt_t, ↓i_lt_f, ↓i_le_t, ↓i_le_f, ↓i_eq_t, ↓i_eq_f, ↓i_m1a, ↓i_m1b, ↓i_m1c, ↓i_m1d, ↓i_m1e, ↓i_m1f, c_lt, c_le, c_eq, if_pos, if_neg, bnd_some, Option.toList, List.nil_append, List.cons_append, c_add, m1_lt, m1_eq1, m1_eq2, m1_le, ret_1, ret_0, if_true, if_false, eq_self_iff], hg⟩
    | succ f ih =>
      intro j g hj hg
      obtain ⟨g', q1, q2⟩ := ih (j + 1) (upd g j (A 30 j)) (by omega) (fun i hi => by
        by_cases e : i = j
        · subst e; exact pk_us
        · rw [pk_un e]; exact hg i (by omega))
      refine ⟨g', ?_, q2⟩
      rw [s_X8_copy_1_2]
      simp (disch := omega) only [s_X8_copy_1_0, s_X8_copy_1_1, s_X8_copy_1_3, s_X8_copy_1_4, s_X8_copy_1_5, s_X8_copy_1_8, s_X8_copy_1_9, s_X8_copy_1_10, s_X8_copy_1_11, s_X8_copy_1_12, s_X8_copy_1_13, s_X8_copy_1_14, s_X8_copy_1_17, s_X8_copy_1_20, ↓i_lt_t, ↓i_lt_f, ↓i_le_t, ↓i_le_f, ↓i_eq_t, ↓i_eq_f, ↓i_m1a, ↓i_m1b, ↓i_m1c, ↓i_m1d, ↓i_m1e, ↓i_m1f, c_lt, c_le, c_eq, if_pos, if_neg, bnd_some, Option.toList, List.nil_append, List.cons_append, c_add, m1_lt, m1_eq1, m1_eq2, m1_le, ret_1, ret_0, if_true, if_false, eq_self_iff, sa_n, ua_sa]
      exact q1
  obtain ⟨g, q1, q2⟩ := lp 6 0 (A 38) (by omega) (fun i hi => by omega)
  rw [sa_id] at q1
  refine ⟨g, ?_, q2⟩
  simp (disch := omega) only [s_X8_copy_1_0, s_X8_copy_1_1, s_X8_copy_1_3, s_X8_copy_1_4, s_X8_copy_1_5, s_X8_copy_1_8, s_X8_copy_1_9, s_X8_copy_1_10, s_X8_copy_1_11, s_X8_copy_1_12, s_X8_copy_1_13, s_X8_copy_1_14, s_X8_copy_1_17, s_X8_copy_1_20, ↓i_lt_t, ↓i_lt_f, ↓i_le_t, ↓i_le_f, ↓i_eq_t, ↓i_eq_f, ↓i_m1a, ↓i_m1b, ↓i_m1c, ↓i_m1d, ↓i_m1e, ↓i_m1f, c_lt, c_le, c_eq, if_pos, if_neg, bnd_some, Option.toList, List.nil_append, List.cons_append, c_add, m1_lt, m1_eq1, m1_eq2, m1_le, ret_1, ret_0, if_true, if_false, eq_self_iff]
  exact q1
theorem mcp_33_39 (sc : Nat × (Nat → Int32)) (I : Nat → Int32) (A : Nat → Nat → Int32) (Z : Int64) : ∃ g : Nat → Int32, rs sc 131 0 [some (.ref 33), some (.ref 39), none] [] [] (hp I A Z) = some (none, hp I (setA A 39 g) Z) ∧ ∀ j, j < 8 → g j = A 33 j := by
  have lp : ∀ (f j : Nat) (g : Nat → Int32), j + f = 8 → (∀ i, i < j → g i = A 33 i) → ∃ g' : Nat → Int32, rs sc 131 2 [some (.ref 33), some (.ref 39), some (.int (nI j))] [] [] (hp I (setA A 39 g) Z) = some (none, hp I (setA A 39 g') Z) ∧ ∀ i, i < 8 → g' i = A 33 i := by
    intro f
    induction f with
    | zero =>
      intro j g hj hg
      have e : j = 8 := by omega
      subst e
      exact ⟨g, by simp (disch := omega) only [s_X8_copy_2_0, s_X8_copy_2_1, s_X8_copy_2_2, s_X8_copy_2_3, s_X8_copy_2_4, s_X8_copy_2_5, s_X8_copy_2_8, s_X8_copy_2_9, s_X8_copy_2_10, s_X8_copy_2_11, s_X8_copy_2_12, s_X8_copy_2_13, s_X8_copy_2_14, s_X8_copy_2_17, s_X8_copy_2_20, ↓i_lt_t, ↓i_lt_f, ↓i_le_t, ↓i_le_f, ↓i_eq_t, ↓i_eq_f, ↓i_m1a, ↓i_m1b, ↓i_m1c, ↓i_m1d, ↓i_m1e, ↓i_m1f, c_lt, c_le, c_eq, if_pos, if_neg, bnd_some, Option.toList, List.nil_append, List.cons_append, c_add, m1_lt, m1_eq1, m1_eq2, m1_le, ret_1, ret_0, if_true, if_false, eq_self_iff], hg⟩
    | succ f ih =>
      intro j g hj hg
      obtain ⟨g', q1, q2⟩ := ih (j + 1) (upd g j (A 33 j)) (by omega) (fun i hi => by
        by_cases e : i = j
        · subst e; exact pk_us
        · rw [pk_un e]; exact hg i (by omega))
      refine ⟨g', ?_, q2⟩
      rw [s_X8_copy_2_2]
      simp (disch := omega) only [s_X8_copy_2_0, s_X8_copy_2_1, s_X8_copy_2_3, s_X8_copy_2_4, s_X8_copy_2_5, s_X8_copy_2_8, s_X8_copy_2_9, s_X8_copy_2_10, s_X8_copy_2_11, s_X8_copy_2_12, s_X8_copy_2_13, s_X8_copy_2_14, s_X8_copy_2_17, s_X8_copy_2_20, ↓i_lt_t, ↓i_lt_f, ↓i_le_t, ↓i_le_f, ↓i_eq_t, ↓i_eq_f, ↓i_m1a, ↓i_m1b, ↓i_m1c, ↓i_m1d, ↓i_m1e, ↓i_m1f, c_lt, c_le, c_eq, if_pos, if_neg, bnd_some, Option.toList, List.nil_append, List.cons_append, c_add, m1_lt, m1_eq1, m1_eq2, m1_le, ret_1, ret_0, if_true, if_false, eq_self_iff, sa_n, ua_sa]
      exact q1
  obtain ⟨g, q1, q2⟩ := lp 8 0 (A 39) (by omega) (fun i hi => by omega)
  rw [sa_id] at q1
  refine ⟨g, ?_, q2⟩
  simp (disch := omega) only [s_X8_copy_2_0, s_X8_copy_2_1, s_X8_copy_2_3, s_X8_copy_2_4, s_X8_copy_2_5, s_X8_copy_2_8, s_X8_copy_2_9, s_X8_copy_2_10, s_X8_copy_2_11, s_X8_copy_2_12, s_X8_copy_2_13, s_X8_copy_2_14, s_X8_copy_2_17, s_X8_copy_2_20, ↓i_lt_t, ↓i_lt_f, ↓i_le_t, ↓i_le_f, ↓i_eq_t, ↓i_eq_f, ↓i_m1a, ↓i_m1b, ↓i_m1c, ↓i_m1d, ↓i_m1e, ↓i_m1f, c_lt, c_le, c_eq, if_pos, if_neg, bnd_some, Option.toList, List.nil_append, List.cons_append, c_add, m1_lt, m1_eq1, m1_eq2, m1_le, ret_1, ret_0, if_true, if_false, eq_self_iff]
  exact q1
theorem mcp_37_29 (sc : Nat × (Nat → Int32)) (I : Nat → Int32) (A : Nat → Nat → Int32) (Z : Int64) : ∃ g : Nat → Int32, rs sc 131 0 [some (.ref 37), some (.ref 29), none] [] [] (hp I A Z) = some (none, hp I (setA A 29 g) Z) ∧ ∀ j, j < 6 → g j = A 37 j := by
  have lp : ∀ (f j : Nat) (g : Nat → Int32), j + f = 6 → (∀ i, i < j → g i = A 37 i) → ∃ g' : Nat → Int32, rs sc 131 2 [some (.ref 37), some (.ref 29), some (.int (nI j))] [] [] (hp I (setA A 29 g) Z) = some (none, hp I (setA A 29 g') Z) ∧ ∀ i, i < 6 → g' i = A 37 i := by
    intro f
    induction f with
    | zero =>
      intro j g hj hg
      have e : j = 6 := by omega
      subst e
      exact ⟨g, by simp (disch := omega) only [s_X8_copy_3_0, s_X8_copy_3_1, s_X8_copy_3_2, s_X8_copy_3_3, s_X8_copy_3_4, s_X8_copy_3_5, s_X8_copy_3_8, s_X8_copy_3_9, s_X8_copy_3_10, s_X8_copy_3_11, s_X8_copy_3_12, s_X8_copy_3_13, s_X8_copy_3_14, s_X8_copy_3_17, s_X8_copy_3_20, ↓i_lt_t, ↓i_lt_f, ↓i_le_t, ↓i_le_f, ↓i_eq_t, ↓i_eq_f, ↓i_m1a, ↓i_m1b, ↓i_m1c, ↓i_m1d, ↓i_m1e, ↓i_m1f, c_lt, c_le, c_eq, if_pos, if_neg, bnd_some, Option.toList, List.nil_append, List.cons_append, c_add, m1_lt, m1_eq1, m1_eq2, m1_le, ret_1, ret_0, if_true, if_false, eq_self_iff], hg⟩
    | succ f ih =>
      intro j g hj hg
      obtain ⟨g', q1, q2⟩ := ih (j + 1) (upd g j (A 37 j)) (by omega) (fun i hi => by
        by_cases e : i = j
        · subst e; exact pk_us
        · rw [pk_un e]; exact hg i (by omega))
      refine ⟨g', ?_, q2⟩
      rw [s_X8_copy_3_2]
      simp (disch := omega) only [s_X8_copy_3_0, s_X8_copy_3_1, s_X8_copy_3_3, s_X8_copy_3_4, s_X8_copy_3_5, s_X8_copy_3_8, s_X8_copy_3_9, s_X8_copy_3_10, s_X8_copy_3_11, s_X8_copy_3_12, s_X8_copy_3_13, s_X8_copy_3_14, s_X8_copy_3_17, s_X8_copy_3_20, ↓i_lt_t, ↓i_lt_f, ↓i_le_t, ↓i_le_f, ↓i_eq_t, ↓i_eq_f, ↓i_m1a, ↓i_m1b, ↓i_m1c, ↓i_m1d, ↓i_m1e, ↓i_m1f, c_lt, c_le, c_eq, if_pos, if_neg, bnd_some, Option.toList, List.nil_append, List.cons_append, c_add, m1_lt, m1_eq1, m1_eq2, m1_le, ret_1, ret_0, if_true, if_false, eq_self_iff, sa_n, ua_sa]
      exact q1
  obtain ⟨g, q1, q2⟩ := lp 6 0 (A 29) (by omega) (fun i hi => by omega)
  rw [sa_id] at q1
  refine ⟨g, ?_, q2⟩
  simp (disch := omega) only [s_X8_copy_3_0, s_X8_copy_3_1, s_X8_copy_3_3, s_X8_copy_3_4, s_X8_copy_3_5, s_X8_copy_3_8, s_X8_copy_3_9, s_X8_copy_3_10, s_X8_copy_3_11, s_X8_copy_3_12, s_X8_copy_3_13, s_X8_copy_3_14, s_X8_copy_3_17, s_X8_copy_3_20, ↓i_lt_t, ↓i_lt_f, ↓i_le_t, ↓i_le_f, ↓i_eq_t, ↓i_eq_f, ↓i_m1a, ↓i_m1b, ↓i_m1c, ↓i_m1d, ↓i_m1e, ↓i_m1f, c_lt, c_le, c_eq, if_pos, if_neg, bnd_some, Option.toList, List.nil_append, List.cons_append, c_add, m1_lt, m1_eq1, m1_eq2, m1_le, ret_1, ret_0, if_true, if_false, eq_self_iff]
  exact q1
theorem mcp_38_30 (sc : Nat × (Nat → Int32)) (I : Nat → Int32) (A : Nat → Nat → Int32) (Z : Int64) : ∃ g : Nat → Int32, rs sc 131 0 [some (.ref 38), some (.ref 30), none] [] [] (hp I A Z) = some (none, hp I (setA A 30 g) Z) ∧ ∀ j, j < 6 → g j = A 38 j := by
  have lp : ∀ (f j : Nat) (g : Nat → Int32), j + f = 6 → (∀ i, i < j → g i = A 38 i) → ∃ g' : Nat → Int32, rs sc 131 2 [some (.ref 38), some (.ref 30), some (.int (nI j))] [] [] (hp I (setA A 30 g) Z) = some (none, hp I (setA A 30 g') Z) ∧ ∀ i, i < 6 → g' i = A 38 i := by
    intro f
    induction f with
    | zero =>
      intro j g hj hg
      have e : j = 6 := by omega
      subst e
      exact ⟨g, by simp (disch := omega) only [s_X8_copy_4_0, s_X8_copy_4_1, s_X8_copy_4_2, s_X8_copy_4_3, s_X8_copy_4_4, s_X8_copy_4_5, s_X8_copy_4_8, s_X8_copy_4_9, s_X8_copy_4_10, s_X8_copy_4_11, s_X8_copy_4_12, s_X8_copy_4_13, s_X8_copy_4_14, s_X8_copy_4_17, s_X8_copy_4_20, ↓i_lt_t, ↓i_lt_f, ↓i_le_t, ↓i_le_f, ↓i_eq_t, ↓i_eq_f, ↓i_m1a, ↓i_m1b, ↓i_m1c, ↓i_m1d, ↓i_m1e, ↓i_m1f, c_lt, c_le, c_eq, if_pos, if_neg, bnd_some, Option.toList, List.nil_append, List.cons_append, c_add, m1_lt, m1_eq1, m1_eq2, m1_le, ret_1, ret_0, if_true, if_false, eq_self_iff], hg⟩
    | succ f ih =>
      intro j g hj hg
      obtain ⟨g', q1, q2⟩ := ih (j + 1) (upd g j (A 38 j)) (by omega) (fun i hi => by
        by_cases e : i = j
        · subst e; exact pk_us
        · rw [pk_un e]; exact hg i (by omega))
      refine ⟨g', ?_, q2⟩
      rw [s_X8_copy_4_2]
      simp (disch := omega) only [s_X8_copy_4_0, s_X8_copy_4_1, s_X8_copy_4_3, s_X8_copy_4_4, s_X8_copy_4_5, s_X8_copy_4_8, s_X8_copy_4_9, s_X8_copy_4_10, s_X8_copy_4_11, s_X8_copy_4_12, s_X8_copy_4_13, s_X8_copy_4_14, s_X8_copy_4_17, s_X8_copy_4_20, ↓i_lt_t, ↓i_lt_f, ↓i_le_t, ↓i_le_f, ↓i_eq_t, ↓i_eq_f, ↓i_m1a, ↓i_m1b, ↓i_m1c, ↓i_m1d, ↓i_m1e, ↓i_m1f, c_lt, c_le, c_eq, if_pos, if_neg, bnd_some, Option.toList, List.nil_append, List.cons_append, c_add, m1_lt, m1_eq1, m1_eq2, m1_le, ret_1, ret_0, if_true, if_false, eq_self_iff, sa_n, ua_sa]
      exact q1
  obtain ⟨g, q1, q2⟩ := lp 6 0 (A 30) (by omega) (fun i hi => by omega)
  rw [sa_id] at q1
  refine ⟨g, ?_, q2⟩
  simp (disch := omega) only [s_X8_copy_4_0, s_X8_copy_4_1, s_X8_copy_4_3, s_X8_copy_4_4, s_X8_copy_4_5, s_X8_copy_4_8, s_X8_copy_4_9, s_X8_copy_4_10, s_X8_copy_4_11, s_X8_copy_4_12, s_X8_copy_4_13, s_X8_copy_4_14, s_X8_copy_4_17, s_X8_copy_4_20, ↓i_lt_t, ↓i_lt_f, ↓i_le_t, ↓i_le_f, ↓i_eq_t, ↓i_eq_f, ↓i_m1a, ↓i_m1b, ↓i_m1c, ↓i_m1d, ↓i_m1e, ↓i_m1f, c_lt, c_le, c_eq, if_pos, if_neg, bnd_some, Option.toList, List.nil_append, List.cons_append, c_add, m1_lt, m1_eq1, m1_eq2, m1_le, ret_1, ret_0, if_true, if_false, eq_self_iff]
  exact q1
theorem mcp_39_33 (sc : Nat × (Nat → Int32)) (I : Nat → Int32) (A : Nat → Nat → Int32) (Z : Int64) : ∃ g : Nat → Int32, rs sc 131 0 [some (.ref 39), some (.ref 33), none] [] [] (hp I A Z) = some (none, hp I (setA A 33 g) Z) ∧ ∀ j, j < 8 → g j = A 39 j := by
  have lp : ∀ (f j : Nat) (g : Nat → Int32), j + f = 8 → (∀ i, i < j → g i = A 39 i) → ∃ g' : Nat → Int32, rs sc 131 2 [some (.ref 39), some (.ref 33), some (.int (nI j))] [] [] (hp I (setA A 33 g) Z) = some (none, hp I (setA A 33 g') Z) ∧ ∀ i, i < 8 → g' i = A 39 i := by
    intro f
    induction f with
    | zero =>
      intro j g hj hg
      have e : j = 8 := by omega
      subst e
      exact ⟨g, by simp (disch := omega) only [s_X8_copy_5_0, s_X8_copy_5_1, s_X8_copy_5_2, s_X8_copy_5_3, s_X8_copy_5_4, s_X8_copy_5_5, s_X8_copy_5_8, s_X8_copy_5_9, s_X8_copy_5_10, s_X8_copy_5_11, s_X8_copy_5_12, s_X8_copy_5_13, s_X8_copy_5_14, s_X8_copy_5_17, s_X8_copy_5_20, ↓i_lt_t, ↓i_lt_f, ↓i_le_t, ↓i_le_f, ↓i_eq_t, ↓i_eq_f, ↓i_m1a, ↓i_m1b, ↓i_m1c, ↓i_m1d, ↓i_m1e, ↓i_m1f, c_lt, c_le, c_eq, if_pos, if_neg, bnd_some, Option.toList, List.nil_append, List.cons_append, c_add, m1_lt, m1_eq1, m1_eq2, m1_le, ret_1, ret_0, if_true, if_false, eq_self_iff], hg⟩
    | succ f ih =>
      intro j g hj hg
      obtain ⟨g', q1, q2⟩ := ih (j + 1) (upd g j (A 39 j)) (by omega) (fun i hi => by
        by_cases e : i = j
        · subst e; exact pk_us
        · rw [pk_un e]; exact hg i (by omega))
      refine ⟨g', ?_, q2⟩
      rw [s_X8_copy_5_2]
      simp (disch := omega) only [s_X8_copy_5_0, s_X8_copy_5_1, s_X8_copy_5_3, s_X8_copy_5_4, s_X8_copy_5_5, s_X8_copy_5_8, s_X8_copy_5_9, s_X8_copy_5_10, s_X8_copy_5_11, s_X8_copy_5_12, s_X8_copy_5_13, s_X8_copy_5_14, s_X8_copy_5_17, s_X8_copy_5_20, ↓i_lt_t, ↓i_lt_f, ↓i_le_t, ↓i_le_f, ↓i_eq_t, ↓i_eq_f, ↓i_m1a, ↓i_m1b, ↓i_m1c, ↓i_m1d, ↓i_m1e, ↓i_m1f, c_lt, c_le, c_eq, if_pos, if_neg, bnd_some, Option.toList, List.nil_append, List.cons_append, c_add, m1_lt, m1_eq1, m1_eq2, m1_le, ret_1, ret_0, if_true, if_false, eq_self_iff, sa_n, ua_sa]
      exact q1
  obtain ⟨g, q1, q2⟩ := lp 8 0 (A 33) (by omega) (fun i hi => by omega)
  rw [sa_id] at q1
  refine ⟨g, ?_, q2⟩
  simp (disch := omega) only [s_X8_copy_5_0, s_X8_copy_5_1, s_X8_copy_5_3, s_X8_copy_5_4, s_X8_copy_5_5, s_X8_copy_5_8, s_X8_copy_5_9, s_X8_copy_5_10, s_X8_copy_5_11, s_X8_copy_5_12, s_X8_copy_5_13, s_X8_copy_5_14, s_X8_copy_5_17, s_X8_copy_5_20, ↓i_lt_t, ↓i_lt_f, ↓i_le_t, ↓i_le_f, ↓i_eq_t, ↓i_eq_f, ↓i_m1a, ↓i_m1b, ↓i_m1c, ↓i_m1d, ↓i_m1e, ↓i_m1f, c_lt, c_le, c_eq, if_pos, if_neg, bnd_some, Option.toList, List.nil_append, List.cons_append, c_add, m1_lt, m1_eq1, m1_eq2, m1_le, ret_1, ret_0, if_true, if_false, eq_self_iff]
  exact q1
theorem fill_19 (sc : Nat × (Nat → Int32)) (I : Nat → Int32) (A : Nat → Nat → Int32) (Z : Int64) (v : Int32) : ∃ g : Nat → Int32, rs sc 83 0 [some (.ref 19), some (.int v), none] [] [] (hp I A Z) = some (none, hp I (setA A 19 g) Z) ∧ ∀ j, j < 12 → g j = v := by
  have lp : ∀ (f j : Nat) (g : Nat → Int32), j + f = 12 → (∀ i, i < j → g i = v) → ∃ g' : Nat → Int32, rs sc 83 2 [some (.ref 19), some (.int v), some (.int (nI j))] [] [] (hp I (setA A 19 g) Z) = some (none, hp I (setA A 19 g') Z) ∧ ∀ i, i < 12 → g' i = v := by
    intro f
    induction f with
    | zero =>
      intro j g hj hg
      have e : j = 12 := by omega
      subst e
      exact ⟨g, by simp (disch := omega) only [s_X7_fill_0_0, s_X7_fill_0_1, s_X7_fill_0_2, s_X7_fill_0_3, s_X7_fill_0_4, s_X7_fill_0_5, s_X7_fill_0_8, s_X7_fill_0_9, s_X7_fill_0_10, s_X7_fill_0_11, s_X7_fill_0_12, s_X7_fill_0_15, s_X7_fill_0_18, ↓i_lt_t, ↓i_lt_f, ↓i_le_t, ↓i_le_f, ↓i_eq_t, ↓i_eq_f, ↓i_m1a, ↓i_m1b, ↓i_m1c, ↓i_m1d, ↓i_m1e, ↓i_m1f, c_lt, c_le, c_eq, if_pos, if_neg, bnd_some, Option.toList, List.nil_append, List.cons_append, c_add, m1_lt, m1_eq1, m1_eq2, m1_le, ret_1, ret_0, if_true, if_false, eq_self_iff], hg⟩
    | succ f ih =>
      intro j g hj hg
      obtain ⟨g', q1, q2⟩ := ih (j + 1) (upd g j v) (by omega) (fun i hi => by
        by_cases e : i = j
        · subst e; exact pk_us
        · rw [pk_un e]; exact hg i (by omega))
      refine ⟨g', ?_, q2⟩
      rw [s_X7_fill_0_2]
      simp (disch := omega) only [s_X7_fill_0_0, s_X7_fill_0_1, s_X7_fill_0_3, s_X7_fill_0_4, s_X7_fill_0_5, s_X7_fill_0_8, s_X7_fill_0_9, s_X7_fill_0_10, s_X7_fill_0_11, s_X7_fill_0_12, s_X7_fill_0_15, s_X7_fill_0_18, ↓i_lt_t, ↓i_lt_f, ↓i_le_t, ↓i_le_f, ↓i_eq_t, ↓i_eq_f, ↓i_m1a, ↓i_m1b, ↓i_m1c, ↓i_m1d, ↓i_m1e, ↓i_m1f, c_lt, c_le, c_eq, if_pos, if_neg, bnd_some, Option.toList, List.nil_append, List.cons_append, c_add, m1_lt, m1_eq1, m1_eq2, m1_le, ret_1, ret_0, if_true, if_false, eq_self_iff, ua_sa]
      exact q1
  obtain ⟨g, q1, q2⟩ := lp 12 0 (A 19) (by omega) (fun i hi => by omega)
  rw [sa_id] at q1
  refine ⟨g, ?_, q2⟩
  simp (disch := omega) only [s_X7_fill_0_0, s_X7_fill_0_1, s_X7_fill_0_3, s_X7_fill_0_4, s_X7_fill_0_5, s_X7_fill_0_8, s_X7_fill_0_9, s_X7_fill_0_10, s_X7_fill_0_11, s_X7_fill_0_12, s_X7_fill_0_15, s_X7_fill_0_18, ↓i_lt_t, ↓i_lt_f, ↓i_le_t, ↓i_le_f, ↓i_eq_t, ↓i_eq_f, ↓i_m1a, ↓i_m1b, ↓i_m1c, ↓i_m1d, ↓i_m1e, ↓i_m1f, c_lt, c_le, c_eq, if_pos, if_neg, bnd_some, Option.toList, List.nil_append, List.cons_append, c_add, m1_lt, m1_eq1, m1_eq2, m1_le, ret_1, ret_0, if_true, if_false, eq_self_iff]
  exact q1
theorem fill_20 (sc : Nat × (Nat → Int32)) (I : Nat → Int32) (A : Nat → Nat → Int32) (Z : Int64) (v : Int32) : ∃ g : Nat → Int32, rs sc 83 0 [some (.ref 20), some (.int v), none] [] [] (hp I A Z) = some (none, hp I (setA A 20 g) Z) ∧ ∀ j, j < 12 → g j = v := by
  have lp : ∀ (f j : Nat) (g : Nat → Int32), j + f = 12 → (∀ i, i < j → g i = v) → ∃ g' : Nat → Int32, rs sc 83 2 [some (.ref 20), some (.int v), some (.int (nI j))] [] [] (hp I (setA A 20 g) Z) = some (none, hp I (setA A 20 g') Z) ∧ ∀ i, i < 12 → g' i = v := by
    intro f
    induction f with
    | zero =>
      intro j g hj hg
      have e : j = 12 := by omega
      subst e
      exact ⟨g, by simp (disch := omega) only [s_X7_fill_1_0, s_X7_fill_1_1, s_X7_fill_1_2, s_X7_fill_1_3, s_X7_fill_1_4, s_X7_fill_1_5, s_X7_fill_1_8, s_X7_fill_1_9, s_X7_fill_1_10, s_X7_fill_1_11, s_X7_fill_1_12, s_X7_fill_1_15, s_X7_fill_1_18, ↓i_lt_t, ↓i_lt_f, ↓i_le_t, ↓i_le_f, ↓i_eq_t, ↓i_eq_f, ↓i_m1a, ↓i_m1b, ↓i_m1c, ↓i_m1d, ↓i_m1e, ↓i_m1f, c_lt, c_le, c_eq, if_pos, if_neg, bnd_some, Option.toList, List.nil_append, List.cons_append, c_add, m1_lt, m1_eq1, m1_eq2, m1_le, ret_1, ret_0, if_true, if_false, eq_self_iff], hg⟩
    | succ f ih =>
      intro j g hj hg
      obtain ⟨g', q1, q2⟩ := ih (j + 1) (upd g j v) (by omega) (fun i hi => by
        by_cases e : i = j
        · subst e; exact pk_us
        · rw [pk_un e]; exact hg i (by omega))
      refine ⟨g', ?_, q2⟩
      rw [s_X7_fill_1_2]
      simp (disch := omega) only [s_X7_fill_1_0, s_X7_fill_1_1, s_X7_fill_1_3, s_X7_fill_1_4, s_X7_fill_1_5, s_X7_fill_1_8, s_X7_fill_1_9, s_X7_fill_1_10, s_X7_fill_1_11, s_X7_fill_1_12, s_X7_fill_1_15, s_X7_fill_1_18, ↓i_lt_t, ↓i_lt_f, ↓i_le_t, ↓i_le_f, ↓i_eq_t, ↓i_eq_f, ↓i_m1a, ↓i_m1b, ↓i_m1c, ↓i_m1d, ↓i_m1e, ↓i_m1f, c_lt, c_le, c_eq, if_pos, if_neg, bnd_some, Option.toList, List.nil_append, List.cons_append, c_add, m1_lt, m1_eq1, m1_eq2, m1_le, ret_1, ret_0, if_true, if_false, eq_self_iff, ua_sa]
      exact q1
  obtain ⟨g, q1, q2⟩ := lp 12 0 (A 20) (by omega) (fun i hi => by omega)
  rw [sa_id] at q1
  refine ⟨g, ?_, q2⟩
  simp (disch := omega) only [s_X7_fill_1_0, s_X7_fill_1_1, s_X7_fill_1_3, s_X7_fill_1_4, s_X7_fill_1_5, s_X7_fill_1_8, s_X7_fill_1_9, s_X7_fill_1_10, s_X7_fill_1_11, s_X7_fill_1_12, s_X7_fill_1_15, s_X7_fill_1_18, ↓i_lt_t, ↓i_lt_f, ↓i_le_t, ↓i_le_f, ↓i_eq_t, ↓i_eq_f, ↓i_m1a, ↓i_m1b, ↓i_m1c, ↓i_m1d, ↓i_m1e, ↓i_m1f, c_lt, c_le, c_eq, if_pos, if_neg, bnd_some, Option.toList, List.nil_append, List.cons_append, c_add, m1_lt, m1_eq1, m1_eq2, m1_le, ret_1, ret_0, if_true, if_false, eq_self_iff]
  exact q1
theorem fill_22 (sc : Nat × (Nat → Int32)) (I : Nat → Int32) (A : Nat → Nat → Int32) (Z : Int64) (v : Int32) : ∃ g : Nat → Int32, rs sc 83 0 [some (.ref 22), some (.int v), none] [] [] (hp I A Z) = some (none, hp I (setA A 22 g) Z) ∧ ∀ j, j < 12 → g j = v := by
  have lp : ∀ (f j : Nat) (g : Nat → Int32), j + f = 12 → (∀ i, i < j → g i = v) → ∃ g' : Nat → Int32, rs sc 83 2 [some (.ref 22), some (.int v), some (.int (nI j))] [] [] (hp I (setA A 22 g) Z) = some (none, hp I (setA A 22 g') Z) ∧ ∀ i, i < 12 → g' i = v := by
    intro f
    induction f with
    | zero =>
      intro j g hj hg
      have e : j = 12 := by omega
      subst e
      exact ⟨g, by simp (disch := omega) only [s_X7_fill_2_0, s_X7_fill_2_1, s_X7_fill_2_2, s_X7_fill_2_3, s_X7_fill_2_4, s_X7_fill_2_5, s_X7_fill_2_8, s_X7_fill_2_9, s_X7_fill_2_10, s_X7_fill_2_11, s_X7_fill_2_12, s_X7_fill_2_15, s_X7_fill_2_18, ↓i_lt_t, ↓i_lt_f, ↓i_le_t, ↓i_le_f, ↓i_eq_t, ↓i_eq_f, ↓i_m1a, ↓i_m1b, ↓i_m1c, ↓i_m1d, ↓i_m1e, ↓i_m1f, c_lt, c_le, c_eq, if_pos, if_neg, bnd_some, Option.toList, List.nil_append, List.cons_append, c_add, m1_lt, m1_eq1, m1_eq2, m1_le, ret_1, ret_0, if_true, if_false, eq_self_iff], hg⟩
    | succ f ih =>
      intro j g hj hg
      obtain ⟨g', q1, q2⟩ := ih (j + 1) (upd g j v) (by omega) (fun i hi => by
        by_cases e : i = j
        · subst e; exact pk_us
        · rw [pk_un e]; exact hg i (by omega))
      refine ⟨g', ?_, q2⟩
      rw [s_X7_fill_2_2]
      simp (disch := omega) only [s_X7_fill_2_0, s_X7_fill_2_1, s_X7_fill_2_3, s_X7_fill_2_4, s_X7_fill_2_5, s_X7_fill_2_8, s_X7_fill_2_9, s_X7_fill_2_10, s_X7_fill_2_11, s_X7_fill_2_12, s_X7_fill_2_15, s_X7_fill_2_18, ↓i_lt_t, ↓i_lt_f, ↓i_le_t, ↓i_le_f, ↓i_eq_t, ↓i_eq_f, ↓i_m1a, ↓i_m1b, ↓i_m1c, ↓i_m1d, ↓i_m1e, ↓i_m1f, c_lt, c_le, c_eq, if_pos, if_neg, bnd_some, Option.toList, List.nil_append, List.cons_append, c_add, m1_lt, m1_eq1, m1_eq2, m1_le, ret_1, ret_0, if_true, if_false, eq_self_iff, ua_sa]
      exact q1
  obtain ⟨g, q1, q2⟩ := lp 12 0 (A 22) (by omega) (fun i hi => by omega)
  rw [sa_id] at q1
  refine ⟨g, ?_, q2⟩
  simp (disch := omega) only [s_X7_fill_2_0, s_X7_fill_2_1, s_X7_fill_2_3, s_X7_fill_2_4, s_X7_fill_2_5, s_X7_fill_2_8, s_X7_fill_2_9, s_X7_fill_2_10, s_X7_fill_2_11, s_X7_fill_2_12, s_X7_fill_2_15, s_X7_fill_2_18, ↓i_lt_t, ↓i_lt_f, ↓i_le_t, ↓i_le_f, ↓i_eq_t, ↓i_eq_f, ↓i_m1a, ↓i_m1b, ↓i_m1c, ↓i_m1d, ↓i_m1e, ↓i_m1f, c_lt, c_le, c_eq, if_pos, if_neg, bnd_some, Option.toList, List.nil_append, List.cons_append, c_add, m1_lt, m1_eq1, m1_eq2, m1_le, ret_1, ret_0, if_true, if_false, eq_self_iff]
  exact q1
theorem cp_8_25 (sc : Nat × (Nat → Int32)) (I : Nat → Int32) (A : Nat → Nat → Int32) (Z : Int64) : ∃ g : Nat → Int32, rs sc 84 0 [some (.ref 8), some (.ref 25), none] [] [] (hp I A Z) = some (none, hp I (setA A 25 g) Z) ∧ ∀ j, j < 3 → g j = A 8 j := by
  have lp : ∀ (f j : Nat) (g : Nat → Int32), j + f = 3 → (∀ i, i < j → g i = A 8 i) → ∃ g' : Nat → Int32, rs sc 84 2 [some (.ref 8), some (.ref 25), some (.int (nI j))] [] [] (hp I (setA A 25 g) Z) = some (none, hp I (setA A 25 g') Z) ∧ ∀ i, i < 3 → g' i = A 8 i := by
    intro f
    induction f with
    | zero =>
      intro j g hj hg
      have e : j = 3 := by omega
      subst e
      exact ⟨g, by simp (disch := omega) only [s_X7_copy_0_0, s_X7_copy_0_1, s_X7_copy_0_2, s_X7_copy_0_3, s_X7_copy_0_4, s_X7_copy_0_5, s_X7_copy_0_8, s_X7_copy_0_9, s_X7_copy_0_10, s_X7_copy_0_11, s_X7_copy_0_12, s_X7_copy_0_15, s_X7_copy_0_16, s_X7_copy_0_19, s_X7_copy_0_22, ↓i_lt_t, ↓i_lt_f, ↓i_le_t, ↓i_le_f, ↓i_eq_t, ↓i_eq_f, ↓i_m1a, ↓i_m1b, ↓i_m1c, ↓i_m1d, ↓i_m1e, ↓i_m1f, c_lt, c_le, c_eq, if_pos, if_neg, bnd_some, Option.toList, List.nil_append, List.cons_append, c_add, m1_lt, m1_eq1, m1_eq2, m1_le, ret_1, ret_0, if_true, if_false, eq_self_iff], hg⟩
    | succ f ih =>
      intro j g hj hg
      obtain ⟨g', q1, q2⟩ := ih (j + 1) (upd g j (A 8 j)) (by omega) (fun i hi => by
        by_cases e : i = j
        · subst e; exact pk_us
        · rw [pk_un e]; exact hg i (by omega))
      refine ⟨g', ?_, q2⟩
      rw [s_X7_copy_0_2]
      simp (disch := omega) only [s_X7_copy_0_0, s_X7_copy_0_1, s_X7_copy_0_3, s_X7_copy_0_4, s_X7_copy_0_5, s_X7_copy_0_8, s_X7_copy_0_9, s_X7_copy_0_10, s_X7_copy_0_11, s_X7_copy_0_12, s_X7_copy_0_15, s_X7_copy_0_16, s_X7_copy_0_19, s_X7_copy_0_22, ↓i_lt_t, ↓i_lt_f, ↓i_le_t, ↓i_le_f, ↓i_eq_t, ↓i_eq_f, ↓i_m1a, ↓i_m1b, ↓i_m1c, ↓i_m1d, ↓i_m1e, ↓i_m1f, c_lt, c_le, c_eq, if_pos, if_neg, bnd_some, Option.toList, List.nil_append, List.cons_append, c_add, m1_lt, m1_eq1, m1_eq2, m1_le, ret_1, ret_0, if_true, if_false, eq_self_iff, at_8, sa_n, ua_sa]
      exact q1
  obtain ⟨g, q1, q2⟩ := lp 3 0 (A 25) (by omega) (fun i hi => by omega)
  rw [sa_id] at q1
  refine ⟨g, ?_, q2⟩
  simp (disch := omega) only [s_X7_copy_0_0, s_X7_copy_0_1, s_X7_copy_0_3, s_X7_copy_0_4, s_X7_copy_0_5, s_X7_copy_0_8, s_X7_copy_0_9, s_X7_copy_0_10, s_X7_copy_0_11, s_X7_copy_0_12, s_X7_copy_0_15, s_X7_copy_0_16, s_X7_copy_0_19, s_X7_copy_0_22, ↓i_lt_t, ↓i_lt_f, ↓i_le_t, ↓i_le_f, ↓i_eq_t, ↓i_eq_f, ↓i_m1a, ↓i_m1b, ↓i_m1c, ↓i_m1d, ↓i_m1e, ↓i_m1f, c_lt, c_le, c_eq, if_pos, if_neg, bnd_some, Option.toList, List.nil_append, List.cons_append, c_add, m1_lt, m1_eq1, m1_eq2, m1_le, ret_1, ret_0, if_true, if_false, eq_self_iff]
  exact q1
theorem cp_6_12 (sc : Nat × (Nat → Int32)) (I : Nat → Int32) (A : Nat → Nat → Int32) (Z : Int64) : ∃ g : Nat → Int32, rs sc 84 0 [some (.ref 6), some (.ref 12), none] [] [] (hp I A Z) = some (none, hp I (setA A 12 g) Z) ∧ ∀ j, j < 3 → g j = A 6 j := by
  have lp : ∀ (f j : Nat) (g : Nat → Int32), j + f = 3 → (∀ i, i < j → g i = A 6 i) → ∃ g' : Nat → Int32, rs sc 84 2 [some (.ref 6), some (.ref 12), some (.int (nI j))] [] [] (hp I (setA A 12 g) Z) = some (none, hp I (setA A 12 g') Z) ∧ ∀ i, i < 3 → g' i = A 6 i := by
    intro f
    induction f with
    | zero =>
      intro j g hj hg
      have e : j = 3 := by omega
      subst e
      exact ⟨g, by simp (disch := omega) only [s_X7_copy_1_0, s_X7_copy_1_1, s_X7_copy_1_2, s_X7_copy_1_3, s_X7_copy_1_4, s_X7_copy_1_5, s_X7_copy_1_8, s_X7_copy_1_9, s_X7_copy_1_10, s_X7_copy_1_11, s_X7_copy_1_12, s_X7_copy_1_15, s_X7_copy_1_16, s_X7_copy_1_19, s_X7_copy_1_22, ↓i_lt_t, ↓i_lt_f, ↓i_le_t, ↓i_le_f, ↓i_eq_t, ↓i_eq_f, ↓i_m1a, ↓i_m1b, ↓i_m1c, ↓i_m1d, ↓i_m1e, ↓i_m1f, c_lt, c_le, c_eq, if_pos, if_neg, bnd_some, Option.toList, List.nil_append, List.cons_append, c_add, m1_lt, m1_eq1, m1_eq2, m1_le, ret_1, ret_0, if_true, if_false, eq_self_iff], hg⟩
    | succ f ih =>
      intro j g hj hg
      obtain ⟨g', q1, q2⟩ := ih (j + 1) (upd g j (A 6 j)) (by omega) (fun i hi => by
        by_cases e : i = j
        · subst e; exact pk_us
        · rw [pk_un e]; exact hg i (by omega))
      refine ⟨g', ?_, q2⟩
      rw [s_X7_copy_1_2]
      simp (disch := omega) only [s_X7_copy_1_0, s_X7_copy_1_1, s_X7_copy_1_3, s_X7_copy_1_4, s_X7_copy_1_5, s_X7_copy_1_8, s_X7_copy_1_9, s_X7_copy_1_10, s_X7_copy_1_11, s_X7_copy_1_12, s_X7_copy_1_15, s_X7_copy_1_16, s_X7_copy_1_19, s_X7_copy_1_22, ↓i_lt_t, ↓i_lt_f, ↓i_le_t, ↓i_le_f, ↓i_eq_t, ↓i_eq_f, ↓i_m1a, ↓i_m1b, ↓i_m1c, ↓i_m1d, ↓i_m1e, ↓i_m1f, c_lt, c_le, c_eq, if_pos, if_neg, bnd_some, Option.toList, List.nil_append, List.cons_append, c_add, m1_lt, m1_eq1, m1_eq2, m1_le, ret_1, ret_0, if_true, if_false, eq_self_iff, at_6, sa_n, ua_sa]
      exact q1
  obtain ⟨g, q1, q2⟩ := lp 3 0 (A 12) (by omega) (fun i hi => by omega)
  rw [sa_id] at q1
  refine ⟨g, ?_, q2⟩
  simp (disch := omega) only [s_X7_copy_1_0, s_X7_copy_1_1, s_X7_copy_1_3, s_X7_copy_1_4, s_X7_copy_1_5, s_X7_copy_1_8, s_X7_copy_1_9, s_X7_copy_1_10, s_X7_copy_1_11, s_X7_copy_1_12, s_X7_copy_1_15, s_X7_copy_1_16, s_X7_copy_1_19, s_X7_copy_1_22, ↓i_lt_t, ↓i_lt_f, ↓i_le_t, ↓i_le_f, ↓i_eq_t, ↓i_eq_f, ↓i_m1a, ↓i_m1b, ↓i_m1c, ↓i_m1d, ↓i_m1e, ↓i_m1f, c_lt, c_le, c_eq, if_pos, if_neg, bnd_some, Option.toList, List.nil_append, List.cons_append, c_add, m1_lt, m1_eq1, m1_eq2, m1_le, ret_1, ret_0, if_true, if_false, eq_self_iff]
  exact q1
theorem cp_7_13 (sc : Nat × (Nat → Int32)) (I : Nat → Int32) (A : Nat → Nat → Int32) (Z : Int64) : ∃ g : Nat → Int32, rs sc 84 0 [some (.ref 7), some (.ref 13), none] [] [] (hp I A Z) = some (none, hp I (setA A 13 g) Z) ∧ ∀ j, j < 3 → g j = A 7 j := by
  have lp : ∀ (f j : Nat) (g : Nat → Int32), j + f = 3 → (∀ i, i < j → g i = A 7 i) → ∃ g' : Nat → Int32, rs sc 84 2 [some (.ref 7), some (.ref 13), some (.int (nI j))] [] [] (hp I (setA A 13 g) Z) = some (none, hp I (setA A 13 g') Z) ∧ ∀ i, i < 3 → g' i = A 7 i := by
    intro f
    induction f with
    | zero =>
      intro j g hj hg
      have e : j = 3 := by omega
      subst e
      exact ⟨g, by simp (disch := omega) only [s_X7_copy_2_0, s_X7_copy_2_1, s_X7_copy_2_2, s_X7_copy_2_3, s_X7_copy_2_4, s_X7_copy_2_5, s_X7_copy_2_8, s_X7_copy_2_9, s_X7_copy_2_10, s_X7_copy_2_11, s_X7_copy_2_12, s_X7_copy_2_15, s_X7_copy_2_16, s_X7_copy_2_19, s_X7_copy_2_22, ↓i_lt_t, ↓i_lt_f, ↓i_le_t, ↓i_le_f, ↓i_eq_t, ↓i_eq_f, ↓i_m1a, ↓i_m1b, ↓i_m1c, ↓i_m1d, ↓i_m1e, ↓i_m1f, c_lt, c_le, c_eq, if_pos, if_neg, bnd_some, Option.toList, List.nil_append, List.cons_append, c_add, m1_lt, m1_eq1, m1_eq2, m1_le, ret_1, ret_0, if_true, if_false, eq_self_iff], hg⟩
    | succ f ih =>
      intro j g hj hg
      obtain ⟨g', q1, q2⟩ := ih (j + 1) (upd g j (A 7 j)) (by omega) (fun i hi => by
        by_cases e : i = j
        · subst e; exact pk_us
        · rw [pk_un e]; exact hg i (by omega))
      refine ⟨g', ?_, q2⟩
      rw [s_X7_copy_2_2]
      simp (disch := omega) only [s_X7_copy_2_0, s_X7_copy_2_1, s_X7_copy_2_3, s_X7_copy_2_4, s_X7_copy_2_5, s_X7_copy_2_8, s_X7_copy_2_9, s_X7_copy_2_10, s_X7_copy_2_11, s_X7_copy_2_12, s_X7_copy_2_15, s_X7_copy_2_16, s_X7_copy_2_19, s_X7_copy_2_22, ↓i_lt_t, ↓i_lt_f, ↓i_le_t, ↓i_le_f, ↓i_eq_t, ↓i_eq_f, ↓i_m1a, ↓i_m1b, ↓i_m1c, ↓i_m1d, ↓i_m1e, ↓i_m1f, c_lt, c_le, c_eq, if_pos, if_neg, bnd_some, Option.toList, List.nil_append, List.cons_append, c_add, m1_lt, m1_eq1, m1_eq2, m1_le, ret_1, ret_0, if_true, if_false, eq_self_iff, at_7, sa_n, ua_sa]
      exact q1
  obtain ⟨g, q1, q2⟩ := lp 3 0 (A 13) (by omega) (fun i hi => by omega)
  rw [sa_id] at q1
  refine ⟨g, ?_, q2⟩
  simp (disch := omega) only [s_X7_copy_2_0, s_X7_copy_2_1, s_X7_copy_2_3, s_X7_copy_2_4, s_X7_copy_2_5, s_X7_copy_2_8, s_X7_copy_2_9, s_X7_copy_2_10, s_X7_copy_2_11, s_X7_copy_2_12, s_X7_copy_2_15, s_X7_copy_2_16, s_X7_copy_2_19, s_X7_copy_2_22, ↓i_lt_t, ↓i_lt_f, ↓i_le_t, ↓i_le_f, ↓i_eq_t, ↓i_eq_f, ↓i_m1a, ↓i_m1b, ↓i_m1c, ↓i_m1d, ↓i_m1e, ↓i_m1f, c_lt, c_le, c_eq, if_pos, if_neg, bnd_some, Option.toList, List.nil_append, List.cons_append, c_add, m1_lt, m1_eq1, m1_eq2, m1_le, ret_1, ret_0, if_true, if_false, eq_self_iff]
  exact q1
theorem cp_8_14 (sc : Nat × (Nat → Int32)) (I : Nat → Int32) (A : Nat → Nat → Int32) (Z : Int64) : ∃ g : Nat → Int32, rs sc 84 0 [some (.ref 8), some (.ref 14), none] [] [] (hp I A Z) = some (none, hp I (setA A 14 g) Z) ∧ ∀ j, j < 3 → g j = A 8 j := by
  have lp : ∀ (f j : Nat) (g : Nat → Int32), j + f = 3 → (∀ i, i < j → g i = A 8 i) → ∃ g' : Nat → Int32, rs sc 84 2 [some (.ref 8), some (.ref 14), some (.int (nI j))] [] [] (hp I (setA A 14 g) Z) = some (none, hp I (setA A 14 g') Z) ∧ ∀ i, i < 3 → g' i = A 8 i := by
    intro f
    induction f with
    | zero =>
      intro j g hj hg
      have e : j = 3 := by omega
      subst e
      exact ⟨g, by simp (disch := omega) only [s_X7_copy_3_0, s_X7_copy_3_1, s_X7_copy_3_2, s_X7_copy_3_3, s_X7_copy_3_4, s_X7_copy_3_5, s_X7_copy_3_8, s_X7_copy_3_9, s_X7_copy_3_10, s_X7_copy_3_11, s_X7_copy_3_12, s_X7_copy_3_15, s_X7_copy_3_16, s_X7_copy_3_19, s_X7_copy_3_22, ↓i_lt_t, ↓i_lt_f, ↓i_le_t, ↓i_le_f, ↓i_eq_t, ↓i_eq_f, ↓i_m1a, ↓i_m1b, ↓i_m1c, ↓i_m1d, ↓i_m1e, ↓i_m1f, c_lt, c_le, c_eq, if_pos, if_neg, bnd_some, Option.toList, List.nil_append, List.cons_append, c_add, m1_lt, m1_eq1, m1_eq2, m1_le, ret_1, ret_0, if_true, if_false, eq_self_iff], hg⟩
    | succ f ih =>
      intro j g hj hg
      obtain ⟨g', q1, q2⟩ := ih (j + 1) (upd g j (A 8 j)) (by omega) (fun i hi => by
        by_cases e : i = j
        · subst e; exact pk_us
        · rw [pk_un e]; exact hg i (by omega))
      refine ⟨g', ?_, q2⟩
      rw [s_X7_copy_3_2]
      simp (disch := omega) only [s_X7_copy_3_0, s_X7_copy_3_1, s_X7_copy_3_3, s_X7_copy_3_4, s_X7_copy_3_5, s_X7_copy_3_8, s_X7_copy_3_9, s_X7_copy_3_10, s_X7_copy_3_11, s_X7_copy_3_12, s_X7_copy_3_15, s_X7_copy_3_16, s_X7_copy_3_19, s_X7_copy_3_22, ↓i_lt_t, ↓i_lt_f, ↓i_le_t, ↓i_le_f, ↓i_eq_t, ↓i_eq_f, ↓i_m1a, ↓i_m1b, ↓i_m1c, ↓i_m1d, ↓i_m1e, ↓i_m1f, c_lt, c_le, c_eq, if_pos, if_neg, bnd_some, Option.toList, List.nil_append, List.cons_append, c_add, m1_lt, m1_eq1, m1_eq2, m1_le, ret_1, ret_0, if_true, if_false, eq_self_iff, at_8, sa_n, ua_sa]
      exact q1
  obtain ⟨g, q1, q2⟩ := lp 3 0 (A 14) (by omega) (fun i hi => by omega)
  rw [sa_id] at q1
  refine ⟨g, ?_, q2⟩
  simp (disch := omega) only [s_X7_copy_3_0, s_X7_copy_3_1, s_X7_copy_3_3, s_X7_copy_3_4, s_X7_copy_3_5, s_X7_copy_3_8, s_X7_copy_3_9, s_X7_copy_3_10, s_X7_copy_3_11, s_X7_copy_3_12, s_X7_copy_3_15, s_X7_copy_3_16, s_X7_copy_3_19, s_X7_copy_3_22, ↓i_lt_t, ↓i_lt_f, ↓i_le_t, ↓i_le_f, ↓i_eq_t, ↓i_eq_f, ↓i_m1a, ↓i_m1b, ↓i_m1c, ↓i_m1d, ↓i_m1e, ↓i_m1f, c_lt, c_le, c_eq, if_pos, if_neg, bnd_some, Option.toList, List.nil_append, List.cons_append, c_add, m1_lt, m1_eq1, m1_eq2, m1_le, ret_1, ret_0, if_true, if_false, eq_self_iff]
  exact q1
theorem cp_9_15 (sc : Nat × (Nat → Int32)) (I : Nat → Int32) (A : Nat → Nat → Int32) (Z : Int64) : ∃ g : Nat → Int32, rs sc 84 0 [some (.ref 9), some (.ref 15), none] [] [] (hp I A Z) = some (none, hp I (setA A 15 g) Z) ∧ ∀ j, j < 3 → g j = A 9 j := by
  have lp : ∀ (f j : Nat) (g : Nat → Int32), j + f = 3 → (∀ i, i < j → g i = A 9 i) → ∃ g' : Nat → Int32, rs sc 84 2 [some (.ref 9), some (.ref 15), some (.int (nI j))] [] [] (hp I (setA A 15 g) Z) = some (none, hp I (setA A 15 g') Z) ∧ ∀ i, i < 3 → g' i = A 9 i := by
    intro f
    induction f with
    | zero =>
      intro j g hj hg
      have e : j = 3 := by omega
      subst e
      exact ⟨g, by simp (disch := omega) only [s_X7_copy_4_0, s_X7_copy_4_1, s_X7_copy_4_2, s_X7_copy_4_3, s_X7_copy_4_4, s_X7_copy_4_5, s_X7_copy_4_8, s_X7_copy_4_9, s_X7_copy_4_10, s_X7_copy_4_11, s_X7_copy_4_12, s_X7_copy_4_15, s_X7_copy_4_16, s_X7_copy_4_19, s_X7_copy_4_22, ↓i_lt_t, ↓i_lt_f, ↓i_le_t, ↓i_le_f, ↓i_eq_t, ↓i_eq_f, ↓i_m1a, ↓i_m1b, ↓i_m1c, ↓i_m1d, ↓i_m1e, ↓i_m1f, c_lt, c_le, c_eq, if_pos, if_neg, bnd_some, Option.toList, List.nil_append, List.cons_append, c_add, m1_lt, m1_eq1, m1_eq2, m1_le, ret_1, ret_0, if_true, if_false, eq_self_iff], hg⟩
    | succ f ih =>
      intro j g hj hg
      obtain ⟨g', q1, q2⟩ := ih (j + 1) (upd g j (A 9 j)) (by omega) (fun i hi => by
        by_cases e : i = j
        · subst e; exact pk_us
        · rw [pk_un e]; exact hg i (by omega))
      refine ⟨g', ?_, q2⟩
      rw [s_X7_copy_4_2]
      simp (disch := omega) only [s_X7_copy_4_0, s_X7_copy_4_1, s_X7_copy_4_3, s_X7_copy_4_4, s_X7_copy_4_5, s_X7_copy_4_8, s_X7_copy_4_9, s_X7_copy_4_10, s_X7_copy_4_11, s_X7_copy_4_12, s_X7_copy_4_15, s_X7_copy_4_16, s_X7_copy_4_19, s_X7_copy_4_22, ↓i_lt_t, ↓i_lt_f, ↓i_le_t, ↓i_le_f, ↓i_eq_t, ↓i_eq_f, ↓i_m1a, ↓i_m1b, ↓i_m1c, ↓i_m1d, ↓i_m1e, ↓i_m1f, c_lt, c_le, c_eq, if_pos, if_neg, bnd_some, Option.toList, List.nil_append, List.cons_append, c_add, m1_lt, m1_eq1, m1_eq2, m1_le, ret_1, ret_0, if_true, if_false, eq_self_iff, at_9, sa_n, ua_sa]
      exact q1
  obtain ⟨g, q1, q2⟩ := lp 3 0 (A 15) (by omega) (fun i hi => by omega)
  rw [sa_id] at q1
  refine ⟨g, ?_, q2⟩
  simp (disch := omega) only [s_X7_copy_4_0, s_X7_copy_4_1, s_X7_copy_4_3, s_X7_copy_4_4, s_X7_copy_4_5, s_X7_copy_4_8, s_X7_copy_4_9, s_X7_copy_4_10, s_X7_copy_4_11, s_X7_copy_4_12, s_X7_copy_4_15, s_X7_copy_4_16, s_X7_copy_4_19, s_X7_copy_4_22, ↓i_lt_t, ↓i_lt_f, ↓i_le_t, ↓i_le_f, ↓i_eq_t, ↓i_eq_f, ↓i_m1a, ↓i_m1b, ↓i_m1c, ↓i_m1d, ↓i_m1e, ↓i_m1f, c_lt, c_le, c_eq, if_pos, if_neg, bnd_some, Option.toList, List.nil_append, List.cons_append, c_add, m1_lt, m1_eq1, m1_eq2, m1_le, ret_1, ret_0, if_true, if_false, eq_self_iff]
  exact q1
theorem cp_10_16 (sc : Nat × (Nat → Int32)) (I : Nat → Int32) (A : Nat → Nat → Int32) (Z : Int64) : ∃ g : Nat → Int32, rs sc 84 0 [some (.ref 10), some (.ref 16), none] [] [] (hp I A Z) = some (none, hp I (setA A 16 g) Z) ∧ ∀ j, j < 8 → g j = A 10 j := by
  have lp : ∀ (f j : Nat) (g : Nat → Int32), j + f = 8 → (∀ i, i < j → g i = A 10 i) → ∃ g' : Nat → Int32, rs sc 84 2 [some (.ref 10), some (.ref 16), some (.int (nI j))] [] [] (hp I (setA A 16 g) Z) = some (none, hp I (setA A 16 g') Z) ∧ ∀ i, i < 8 → g' i = A 10 i := by
    intro f
    induction f with
    | zero =>
      intro j g hj hg
      have e : j = 8 := by omega
      subst e
      exact ⟨g, by simp (disch := omega) only [s_X7_copy_5_0, s_X7_copy_5_1, s_X7_copy_5_2, s_X7_copy_5_3, s_X7_copy_5_4, s_X7_copy_5_5, s_X7_copy_5_8, s_X7_copy_5_9, s_X7_copy_5_10, s_X7_copy_5_11, s_X7_copy_5_12, s_X7_copy_5_15, s_X7_copy_5_16, s_X7_copy_5_19, s_X7_copy_5_22, ↓i_lt_t, ↓i_lt_f, ↓i_le_t, ↓i_le_f, ↓i_eq_t, ↓i_eq_f, ↓i_m1a, ↓i_m1b, ↓i_m1c, ↓i_m1d, ↓i_m1e, ↓i_m1f, c_lt, c_le, c_eq, if_pos, if_neg, bnd_some, Option.toList, List.nil_append, List.cons_append, c_add, m1_lt, m1_eq1, m1_eq2, m1_le, ret_1, ret_0, if_true, if_false, eq_self_iff], hg⟩
    | succ f ih =>
      intro j g hj hg
      obtain ⟨g', q1, q2⟩ := ih (j + 1) (upd g j (A 10 j)) (by omega) (fun i hi => by
        by_cases e : i = j
        · subst e; exact pk_us
        · rw [pk_un e]; exact hg i (by omega))
      refine ⟨g', ?_, q2⟩
      rw [s_X7_copy_5_2]
      simp (disch := omega) only [s_X7_copy_5_0, s_X7_copy_5_1, s_X7_copy_5_3, s_X7_copy_5_4, s_X7_copy_5_5, s_X7_copy_5_8, s_X7_copy_5_9, s_X7_copy_5_10, s_X7_copy_5_11, s_X7_copy_5_12, s_X7_copy_5_15, s_X7_copy_5_16, s_X7_copy_5_19, s_X7_copy_5_22, ↓i_lt_t, ↓i_lt_f, ↓i_le_t, ↓i_le_f, ↓i_eq_t, ↓i_eq_f, ↓i_m1a, ↓i_m1b, ↓i_m1c, ↓i_m1d, ↓i_m1e, ↓i_m1f, c_lt, c_le, c_eq, if_pos, if_neg, bnd_some, Option.toList, List.nil_append, List.cons_append, c_add, m1_lt, m1_eq1, m1_eq2, m1_le, ret_1, ret_0, if_true, if_false, eq_self_iff, at_10, sa_n, ua_sa]
      exact q1
  obtain ⟨g, q1, q2⟩ := lp 8 0 (A 16) (by omega) (fun i hi => by omega)
  rw [sa_id] at q1
  refine ⟨g, ?_, q2⟩
  simp (disch := omega) only [s_X7_copy_5_0, s_X7_copy_5_1, s_X7_copy_5_3, s_X7_copy_5_4, s_X7_copy_5_5, s_X7_copy_5_8, s_X7_copy_5_9, s_X7_copy_5_10, s_X7_copy_5_11, s_X7_copy_5_12, s_X7_copy_5_15, s_X7_copy_5_16, s_X7_copy_5_19, s_X7_copy_5_22, ↓i_lt_t, ↓i_lt_f, ↓i_le_t, ↓i_le_f, ↓i_eq_t, ↓i_eq_f, ↓i_m1a, ↓i_m1b, ↓i_m1c, ↓i_m1d, ↓i_m1e, ↓i_m1f, c_lt, c_le, c_eq, if_pos, if_neg, bnd_some, Option.toList, List.nil_append, List.cons_append, c_add, m1_lt, m1_eq1, m1_eq2, m1_le, ret_1, ret_0, if_true, if_false, eq_self_iff]
  exact q1
theorem cp_12_6 (sc : Nat × (Nat → Int32)) (I : Nat → Int32) (A : Nat → Nat → Int32) (Z : Int64) : ∃ g : Nat → Int32, rs sc 84 0 [some (.ref 12), some (.ref 6), none] [] [] (hp I A Z) = some (none, hp I (setA A 6 g) Z) ∧ ∀ j, j < 3 → g j = A 12 j := by
  have lp : ∀ (f j : Nat) (g : Nat → Int32), j + f = 3 → (∀ i, i < j → g i = A 12 i) → ∃ g' : Nat → Int32, rs sc 84 2 [some (.ref 12), some (.ref 6), some (.int (nI j))] [] [] (hp I (setA A 6 g) Z) = some (none, hp I (setA A 6 g') Z) ∧ ∀ i, i < 3 → g' i = A 12 i := by
    intro f
    induction f with
    | zero =>
      intro j g hj hg
      have e : j = 3 := by omega
      subst e
      exact ⟨g, by simp (disch := omega) only [s_X7_copy_6_0, s_X7_copy_6_1, s_X7_copy_6_2, s_X7_copy_6_3, s_X7_copy_6_4, s_X7_copy_6_5, s_X7_copy_6_8, s_X7_copy_6_9, s_X7_copy_6_10, s_X7_copy_6_11, s_X7_copy_6_12, s_X7_copy_6_15, s_X7_copy_6_16, s_X7_copy_6_19, s_X7_copy_6_22, ↓i_lt_t, ↓i_lt_f, ↓i_le_t, ↓i_le_f, ↓i_eq_t, ↓i_eq_f, ↓i_m1a, ↓i_m1b, ↓i_m1c, ↓i_m1d, ↓i_m1e, ↓i_m1f, c_lt, c_le, c_eq, if_pos, if_neg, bnd_some, Option.toList, List.nil_append, List.cons_append, c_add, m1_lt, m1_eq1, m1_eq2, m1_le, ret_1, ret_0, if_true, if_false, eq_self_iff], hg⟩
    | succ f ih =>
      intro j g hj hg
      obtain ⟨g', q1, q2⟩ := ih (j + 1) (upd g j (A 12 j)) (by omega) (fun i hi => by
        by_cases e : i = j
        · subst e; exact pk_us
        · rw [pk_un e]; exact hg i (by omega))
      refine ⟨g', ?_, q2⟩
      rw [s_X7_copy_6_2]
      simp (disch := omega) only [s_X7_copy_6_0, s_X7_copy_6_1, s_X7_copy_6_3, s_X7_copy_6_4, s_X7_copy_6_5, s_X7_copy_6_8, s_X7_copy_6_9, s_X7_copy_6_10, s_X7_copy_6_11, s_X7_copy_6_12, s_X7_copy_6_15, s_X7_copy_6_16, s_X7_copy_6_19, s_X7_copy_6_22, ↓i_lt_t, ↓i_lt_f, ↓i_le_t, ↓i_le_f, ↓i_eq_t, ↓i_eq_f, ↓i_m1a, ↓i_m1b, ↓i_m1c, ↓i_m1d, ↓i_m1e, ↓i_m1f, c_lt, c_le, c_eq, if_pos, if_neg, bnd_some, Option.toList, List.nil_append, List.cons_append, c_add, m1_lt, m1_eq1, m1_eq2, m1_le, ret_1, ret_0, if_true, if_false, eq_self_iff, at_12, sa_n, ua_sa]
      exact q1
  obtain ⟨g, q1, q2⟩ := lp 3 0 (A 6) (by omega) (fun i hi => by omega)
  rw [sa_id] at q1
  refine ⟨g, ?_, q2⟩
  simp (disch := omega) only [s_X7_copy_6_0, s_X7_copy_6_1, s_X7_copy_6_3, s_X7_copy_6_4, s_X7_copy_6_5, s_X7_copy_6_8, s_X7_copy_6_9, s_X7_copy_6_10, s_X7_copy_6_11, s_X7_copy_6_12, s_X7_copy_6_15, s_X7_copy_6_16, s_X7_copy_6_19, s_X7_copy_6_22, ↓i_lt_t, ↓i_lt_f, ↓i_le_t, ↓i_le_f, ↓i_eq_t, ↓i_eq_f, ↓i_m1a, ↓i_m1b, ↓i_m1c, ↓i_m1d, ↓i_m1e, ↓i_m1f, c_lt, c_le, c_eq, if_pos, if_neg, bnd_some, Option.toList, List.nil_append, List.cons_append, c_add, m1_lt, m1_eq1, m1_eq2, m1_le, ret_1, ret_0, if_true, if_false, eq_self_iff]
  exact q1
theorem cp_13_7 (sc : Nat × (Nat → Int32)) (I : Nat → Int32) (A : Nat → Nat → Int32) (Z : Int64) : ∃ g : Nat → Int32, rs sc 84 0 [some (.ref 13), some (.ref 7), none] [] [] (hp I A Z) = some (none, hp I (setA A 7 g) Z) ∧ ∀ j, j < 3 → g j = A 13 j := by
  have lp : ∀ (f j : Nat) (g : Nat → Int32), j + f = 3 → (∀ i, i < j → g i = A 13 i) → ∃ g' : Nat → Int32, rs sc 84 2 [some (.ref 13), some (.ref 7), some (.int (nI j))] [] [] (hp I (setA A 7 g) Z) = some (none, hp I (setA A 7 g') Z) ∧ ∀ i, i < 3 → g' i = A 13 i := by
    intro f
    induction f with
    | zero =>
      intro j g hj hg
      have e : j = 3 := by omega
      subst e
      exact ⟨g, by simp (disch := omega) only [s_X7_copy_7_0, s_X7_copy_7_1, s_X7_copy_7_2, s_X7_copy_7_3, s_X7_copy_7_4, s_X7_copy_7_5, s_X7_copy_7_8, s_X7_copy_7_9, s_X7_copy_7_10, s_X7_copy_7_11, s_X7_copy_7_12, s_X7_copy_7_15, s_X7_copy_7_16, s_X7_copy_7_19, s_X7_copy_7_22, ↓i_lt_t, ↓i_lt_f, ↓i_le_t, ↓i_le_f, ↓i_eq_t, ↓i_eq_f, ↓i_m1a, ↓i_m1b, ↓i_m1c, ↓i_m1d, ↓i_m1e, ↓i_m1f, c_lt, c_le, c_eq, if_pos, if_neg, bnd_some, Option.toList, List.nil_append, List.cons_append, c_add, m1_lt, m1_eq1, m1_eq2, m1_le, ret_1, ret_0, if_true, if_false, eq_self_iff], hg⟩
    | succ f ih =>
      intro j g hj hg
      obtain ⟨g', q1, q2⟩ := ih (j + 1) (upd g j (A 13 j)) (by omega) (fun i hi => by
        by_cases e : i = j
        · subst e; exact pk_us
        · rw [pk_un e]; exact hg i (by omega))
      refine ⟨g', ?_, q2⟩
      rw [s_X7_copy_7_2]
      simp (disch := omega) only [s_X7_copy_7_0, s_X7_copy_7_1, s_X7_copy_7_3, s_X7_copy_7_4, s_X7_copy_7_5, s_X7_copy_7_8, s_X7_copy_7_9, s_X7_copy_7_10, s_X7_copy_7_11, s_X7_copy_7_12, s_X7_copy_7_15, s_X7_copy_7_16, s_X7_copy_7_19, s_X7_copy_7_22, ↓i_lt_t, ↓i_lt_f, ↓i_le_t, ↓i_le_f, ↓i_eq_t, ↓i_eq_f, ↓i_m1a, ↓i_m1b, ↓i_m1c, ↓i_m1d, ↓i_m1e, ↓i_m1f, c_lt, c_le, c_eq, if_pos, if_neg, bnd_some, Option.toList, List.nil_append, List.cons_append, c_add, m1_lt, m1_eq1, m1_eq2, m1_le, ret_1, ret_0, if_true, if_false, eq_self_iff, at_13, sa_n, ua_sa]
      exact q1
  obtain ⟨g, q1, q2⟩ := lp 3 0 (A 7) (by omega) (fun i hi => by omega)
  rw [sa_id] at q1
  refine ⟨g, ?_, q2⟩
  simp (disch := omega) only [s_X7_copy_7_0, s_X7_copy_7_1, s_X7_copy_7_3, s_X7_copy_7_4, s_X7_copy_7_5, s_X7_copy_7_8, s_X7_copy_7_9, s_X7_copy_7_10, s_X7_copy_7_11, s_X7_copy_7_12, s_X7_copy_7_15, s_X7_copy_7_16, s_X7_copy_7_19, s_X7_copy_7_22, ↓i_lt_t, ↓i_lt_f, ↓i_le_t, ↓i_le_f, ↓i_eq_t, ↓i_eq_f, ↓i_m1a, ↓i_m1b, ↓i_m1c, ↓i_m1d, ↓i_m1e, ↓i_m1f, c_lt, c_le, c_eq, if_pos, if_neg, bnd_some, Option.toList, List.nil_append, List.cons_append, c_add, m1_lt, m1_eq1, m1_eq2, m1_le, ret_1, ret_0, if_true, if_false, eq_self_iff]
  exact q1
theorem cp_14_8 (sc : Nat × (Nat → Int32)) (I : Nat → Int32) (A : Nat → Nat → Int32) (Z : Int64) : ∃ g : Nat → Int32, rs sc 84 0 [some (.ref 14), some (.ref 8), none] [] [] (hp I A Z) = some (none, hp I (setA A 8 g) Z) ∧ ∀ j, j < 3 → g j = A 14 j := by
  have lp : ∀ (f j : Nat) (g : Nat → Int32), j + f = 3 → (∀ i, i < j → g i = A 14 i) → ∃ g' : Nat → Int32, rs sc 84 2 [some (.ref 14), some (.ref 8), some (.int (nI j))] [] [] (hp I (setA A 8 g) Z) = some (none, hp I (setA A 8 g') Z) ∧ ∀ i, i < 3 → g' i = A 14 i := by
    intro f
    induction f with
    | zero =>
      intro j g hj hg
      have e : j = 3 := by omega
      subst e
      exact ⟨g, by simp (disch := omega) only [s_X7_copy_8_0, s_X7_copy_8_1, s_X7_copy_8_2, s_X7_copy_8_3, s_X7_copy_8_4, s_X7_copy_8_5, s_X7_copy_8_8, s_X7_copy_8_9, s_X7_copy_8_10, s_X7_copy_8_11, s_X7_copy_8_12, s_X7_copy_8_15, s_X7_copy_8_16, s_X7_copy_8_19, s_X7_copy_8_22, ↓i_lt_t, ↓i_lt_f, ↓i_le_t, ↓i_le_f, ↓i_eq_t, ↓i_eq_f, ↓i_m1a, ↓i_m1b, ↓i_m1c, ↓i_m1d, ↓i_m1e, ↓i_m1f, c_lt, c_le, c_eq, if_pos, if_neg, bnd_some, Option.toList, List.nil_append, List.cons_append, c_add, m1_lt, m1_eq1, m1_eq2, m1_le, ret_1, ret_0, if_true, if_false, eq_self_iff], hg⟩
    | succ f ih =>
      intro j g hj hg
      obtain ⟨g', q1, q2⟩ := ih (j + 1) (upd g j (A 14 j)) (by omega) (fun i hi => by
        by_cases e : i = j
        · subst e; exact pk_us
        · rw [pk_un e]; exact hg i (by omega))
      refine ⟨g', ?_, q2⟩
      rw [s_X7_copy_8_2]
      simp (disch := omega) only [s_X7_copy_8_0, s_X7_copy_8_1, s_X7_copy_8_3, s_X7_copy_8_4, s_X7_copy_8_5, s_X7_copy_8_8, s_X7_copy_8_9, s_X7_copy_8_10, s_X7_copy_8_11, s_X7_copy_8_12, s_X7_copy_8_15, s_X7_copy_8_16, s_X7_copy_8_19, s_X7_copy_8_22, ↓i_lt_t, ↓i_lt_f, ↓i_le_t, ↓i_le_f, ↓i_eq_t, ↓i_eq_f, ↓i_m1a, ↓i_m1b, ↓i_m1c, ↓i_m1d, ↓i_m1e, ↓i_m1f, c_lt, c_le, c_eq, if_pos, if_neg, bnd_some, Option.toList, List.nil_append, List.cons_append, c_add, m1_lt, m1_eq1, m1_eq2, m1_le, ret_1, ret_0, if_true, if_false, eq_self_iff, at_14, sa_n, ua_sa]
      exact q1
  obtain ⟨g, q1, q2⟩ := lp 3 0 (A 8) (by omega) (fun i hi => by omega)
  rw [sa_id] at q1
  refine ⟨g, ?_, q2⟩
  simp (disch := omega) only [s_X7_copy_8_0, s_X7_copy_8_1, s_X7_copy_8_3, s_X7_copy_8_4, s_X7_copy_8_5, s_X7_copy_8_8, s_X7_copy_8_9, s_X7_copy_8_10, s_X7_copy_8_11, s_X7_copy_8_12, s_X7_copy_8_15, s_X7_copy_8_16, s_X7_copy_8_19, s_X7_copy_8_22, ↓i_lt_t, ↓i_lt_f, ↓i_le_t, ↓i_le_f, ↓i_eq_t, ↓i_eq_f, ↓i_m1a, ↓i_m1b, ↓i_m1c, ↓i_m1d, ↓i_m1e, ↓i_m1f, c_lt, c_le, c_eq, if_pos, if_neg, bnd_some, Option.toList, List.nil_append, List.cons_append, c_add, m1_lt, m1_eq1, m1_eq2, m1_le, ret_1, ret_0, if_true, if_false, eq_self_iff]
  exact q1
theorem cp_15_9 (sc : Nat × (Nat → Int32)) (I : Nat → Int32) (A : Nat → Nat → Int32) (Z : Int64) : ∃ g : Nat → Int32, rs sc 84 0 [some (.ref 15), some (.ref 9), none] [] [] (hp I A Z) = some (none, hp I (setA A 9 g) Z) ∧ ∀ j, j < 3 → g j = A 15 j := by
  have lp : ∀ (f j : Nat) (g : Nat → Int32), j + f = 3 → (∀ i, i < j → g i = A 15 i) → ∃ g' : Nat → Int32, rs sc 84 2 [some (.ref 15), some (.ref 9), some (.int (nI j))] [] [] (hp I (setA A 9 g) Z) = some (none, hp I (setA A 9 g') Z) ∧ ∀ i, i < 3 → g' i = A 15 i := by
    intro f
    induction f with
    | zero =>
      intro j g hj hg
      have e : j = 3 := by omega
      subst e
      exact ⟨g, by simp (disch := omega) only [s_X7_copy_9_0, s_X7_copy_9_1, s_X7_copy_9_2, s_X7_copy_9_3, s_X7_copy_9_4, s_X7_copy_9_5, s_X7_copy_9_8, s_X7_copy_9_9, s_X7_copy_9_10, s_X7_copy_9_11, s_X7_copy_9_12, s_X7_copy_9_15, s_X7_copy_9_16, s_X7_copy_9_19, s_X7_copy_9_22, ↓i_lt_t, ↓i_lt_f, ↓i_le_t, ↓i_le_f, ↓i_eq_t, ↓i_eq_f, ↓i_m1a, ↓i_m1b, ↓i_m1c, ↓i_m1d, ↓i_m1e, ↓i_m1f, c_lt, c_le, c_eq, if_pos, if_neg, bnd_some, Option.toList, List.nil_append, List.cons_append, c_add, m1_lt, m1_eq1, m1_eq2, m1_le, ret_1, ret_0, if_true, if_false, eq_self_iff], hg⟩
    | succ f ih =>
      intro j g hj hg
      obtain ⟨g', q1, q2⟩ := ih (j + 1) (upd g j (A 15 j)) (by omega) (fun i hi => by
        by_cases e : i = j
        · subst e; exact pk_us
        · rw [pk_un e]; exact hg i (by omega))
      refine ⟨g', ?_, q2⟩
      rw [s_X7_copy_9_2]
      simp (disch := omega) only [s_X7_copy_9_0, s_X7_copy_9_1, s_X7_copy_9_3, s_X7_copy_9_4, s_X7_copy_9_5, s_X7_copy_9_8, s_X7_copy_9_9, s_X7_copy_9_10, s_X7_copy_9_11, s_X7_copy_9_12, s_X7_copy_9_15, s_X7_copy_9_16, s_X7_copy_9_19, s_X7_copy_9_22, ↓i_lt_t, ↓i_lt_f, ↓i_le_t, ↓i_le_f, ↓i_eq_t, ↓i_eq_f, ↓i_m1a, ↓i_m1b, ↓i_m1c, ↓i_m1d, ↓i_m1e, ↓i_m1f, c_lt, c_le, c_eq, if_pos, if_neg, bnd_some, Option.toList, List.nil_append, List.cons_append, c_add, m1_lt, m1_eq1, m1_eq2, m1_le, ret_1, ret_0, if_true, if_false, eq_self_iff, at_15, sa_n, ua_sa]
      exact q1
  obtain ⟨g, q1, q2⟩ := lp 3 0 (A 9) (by omega) (fun i hi => by omega)
  rw [sa_id] at q1
  refine ⟨g, ?_, q2⟩
  simp (disch := omega) only [s_X7_copy_9_0, s_X7_copy_9_1, s_X7_copy_9_3, s_X7_copy_9_4, s_X7_copy_9_5, s_X7_copy_9_8, s_X7_copy_9_9, s_X7_copy_9_10, s_X7_copy_9_11, s_X7_copy_9_12, s_X7_copy_9_15, s_X7_copy_9_16, s_X7_copy_9_19, s_X7_copy_9_22, ↓i_lt_t, ↓i_lt_f, ↓i_le_t, ↓i_le_f, ↓i_eq_t, ↓i_eq_f, ↓i_m1a, ↓i_m1b, ↓i_m1c, ↓i_m1d, ↓i_m1e, ↓i_m1f, c_lt, c_le, c_eq, if_pos, if_neg, bnd_some, Option.toList, List.nil_append, List.cons_append, c_add, m1_lt, m1_eq1, m1_eq2, m1_le, ret_1, ret_0, if_true, if_false, eq_self_iff]
  exact q1
theorem cp_16_10 (sc : Nat × (Nat → Int32)) (I : Nat → Int32) (A : Nat → Nat → Int32) (Z : Int64) : ∃ g : Nat → Int32, rs sc 84 0 [some (.ref 16), some (.ref 10), none] [] [] (hp I A Z) = some (none, hp I (setA A 10 g) Z) ∧ ∀ j, j < 8 → g j = A 16 j := by
  have lp : ∀ (f j : Nat) (g : Nat → Int32), j + f = 8 → (∀ i, i < j → g i = A 16 i) → ∃ g' : Nat → Int32, rs sc 84 2 [some (.ref 16), some (.ref 10), some (.int (nI j))] [] [] (hp I (setA A 10 g) Z) = some (none, hp I (setA A 10 g') Z) ∧ ∀ i, i < 8 → g' i = A 16 i := by
    intro f
    induction f with
    | zero =>
      intro j g hj hg
      have e : j = 8 := by omega
      subst e
      exact ⟨g, by simp (disch := omega) only [s_X7_copy_10_0, s_X7_copy_10_1, s_X7_copy_10_2, s_X7_copy_10_3, s_X7_copy_10_4, s_X7_copy_10_5, s_X7_copy_10_8, s_X7_copy_10_9, s_X7_copy_10_10, s_X7_copy_10_11, s_X7_copy_10_12, s_X7_copy_10_15, s_X7_copy_10_16, s_X7_copy_10_19, s_X7_copy_10_22, ↓i_lt_t, ↓i_lt_f, ↓i_le_t, ↓i_le_f, ↓i_eq_t, ↓i_eq_f, ↓i_m1a, ↓i_m1b, ↓i_m1c, ↓i_m1d, ↓i_m1e, ↓i_m1f, c_lt, c_le, c_eq, if_pos, if_neg, bnd_some, Option.toList, List.nil_append, List.cons_append, c_add, m1_lt, m1_eq1, m1_eq2, m1_le, ret_1, ret_0, if_true, if_false, eq_self_iff], hg⟩
    | succ f ih =>
      intro j g hj hg
      obtain ⟨g', q1, q2⟩ := ih (j + 1) (upd g j (A 16 j)) (by omega) (fun i hi => by
        by_cases e : i = j
        · subst e; exact pk_us
        · rw [pk_un e]; exact hg i (by omega))
      refine ⟨g', ?_, q2⟩
      rw [s_X7_copy_10_2]
      simp (disch := omega) only [s_X7_copy_10_0, s_X7_copy_10_1, s_X7_copy_10_3, s_X7_copy_10_4, s_X7_copy_10_5, s_X7_copy_10_8, s_X7_copy_10_9, s_X7_copy_10_10, s_X7_copy_10_11, s_X7_copy_10_12, s_X7_copy_10_15, s_X7_copy_10_16, s_X7_copy_10_19, s_X7_copy_10_22, ↓i_lt_t, ↓i_lt_f, ↓i_le_t, ↓i_le_f, ↓i_eq_t, ↓i_eq_f, ↓i_m1a, ↓i_m1b, ↓i_m1c, ↓i_m1d, ↓i_m1e, ↓i_m1f, c_lt, c_le, c_eq, if_pos, if_neg, bnd_some, Option.toList, List.nil_append, List.cons_append, c_add, m1_lt, m1_eq1, m1_eq2, m1_le, ret_1, ret_0, if_true, if_false, eq_self_iff, at_16, sa_n, ua_sa]
      exact q1
  obtain ⟨g, q1, q2⟩ := lp 8 0 (A 10) (by omega) (fun i hi => by omega)
  rw [sa_id] at q1
  refine ⟨g, ?_, q2⟩
  simp (disch := omega) only [s_X7_copy_10_0, s_X7_copy_10_1, s_X7_copy_10_3, s_X7_copy_10_4, s_X7_copy_10_5, s_X7_copy_10_8, s_X7_copy_10_9, s_X7_copy_10_10, s_X7_copy_10_11, s_X7_copy_10_12, s_X7_copy_10_15, s_X7_copy_10_16, s_X7_copy_10_19, s_X7_copy_10_22, ↓i_lt_t, ↓i_lt_f, ↓i_le_t, ↓i_le_f, ↓i_eq_t, ↓i_eq_f, ↓i_m1a, ↓i_m1b, ↓i_m1c, ↓i_m1d, ↓i_m1e, ↓i_m1f, c_lt, c_le, c_eq, if_pos, if_neg, bnd_some, Option.toList, List.nil_append, List.cons_append, c_add, m1_lt, m1_eq1, m1_eq2, m1_le, ret_1, ret_0, if_true, if_false, eq_self_iff]
  exact q1
theorem mcp_35_34 (sc : Nat × (Nat → Int32)) (I : Nat → Int32) (A : Nat → Nat → Int32) (Z : Int64) : ∃ g : Nat → Int32, rs sc 131 0 [some (.ref 35), some (.ref 34), none] [] [] (hp I A Z) = some (none, hp I (setA A 34 g) Z) ∧ ∀ j, j < 12 → g j = A 35 j := by
  have lp : ∀ (f j : Nat) (g : Nat → Int32), j + f = 12 → (∀ i, i < j → g i = A 35 i) → ∃ g' : Nat → Int32, rs sc 131 2 [some (.ref 35), some (.ref 34), some (.int (nI j))] [] [] (hp I (setA A 34 g) Z) = some (none, hp I (setA A 34 g') Z) ∧ ∀ i, i < 12 → g' i = A 35 i := by
    intro f
    induction f with
    | zero =>
      intro j g hj hg
      have e : j = 12 := by omega
      subst e
      exact ⟨g, by simp (disch := omega) only [s_X8_copy_6_0, s_X8_copy_6_1, s_X8_copy_6_2, s_X8_copy_6_3, s_X8_copy_6_4, s_X8_copy_6_5, s_X8_copy_6_8, s_X8_copy_6_9, s_X8_copy_6_10, s_X8_copy_6_11, s_X8_copy_6_12, s_X8_copy_6_13, s_X8_copy_6_14, s_X8_copy_6_17, s_X8_copy_6_20, ↓i_lt_t, ↓i_lt_f, ↓i_le_t, ↓i_le_f, ↓i_eq_t, ↓i_eq_f, ↓i_m1a, ↓i_m1b, ↓i_m1c, ↓i_m1d, ↓i_m1e, ↓i_m1f, c_lt, c_le, c_eq, if_pos, if_neg, bnd_some, Option.toList, List.nil_append, List.cons_append, c_add, m1_lt, m1_eq1, m1_eq2, m1_le, ret_1, ret_0, if_true, if_false, eq_self_iff], hg⟩
    | succ f ih =>
      intro j g hj hg
      obtain ⟨g', q1, q2⟩ := ih (j + 1) (upd g j (A 35 j)) (by omega) (fun i hi => by
        by_cases e : i = j
        · subst e; exact pk_us
        · rw [pk_un e]; exact hg i (by omega))
      refine ⟨g', ?_, q2⟩
      rw [s_X8_copy_6_2]
      simp (disch := omega) only [s_X8_copy_6_0, s_X8_copy_6_1, s_X8_copy_6_3, s_X8_copy_6_4, s_X8_copy_6_5, s_X8_copy_6_8, s_X8_copy_6_9, s_X8_copy_6_10, s_X8_copy_6_11, s_X8_copy_6_12, s_X8_copy_6_13, s_X8_copy_6_14, s_X8_copy_6_17, s_X8_copy_6_20, ↓i_lt_t, ↓i_lt_f, ↓i_le_t, ↓i_le_f, ↓i_eq_t, ↓i_eq_f, ↓i_m1a, ↓i_m1b, ↓i_m1c, ↓i_m1d, ↓i_m1e, ↓i_m1f, c_lt, c_le, c_eq, if_pos, if_neg, bnd_some, Option.toList, List.nil_append, List.cons_append, c_add, m1_lt, m1_eq1, m1_eq2, m1_le, ret_1, ret_0, if_true, if_false, eq_self_iff, sa_n, ua_sa]
      exact q1
  obtain ⟨g, q1, q2⟩ := lp 12 0 (A 34) (by omega) (fun i hi => by omega)
  rw [sa_id] at q1
  refine ⟨g, ?_, q2⟩
  simp (disch := omega) only [s_X8_copy_6_0, s_X8_copy_6_1, s_X8_copy_6_3, s_X8_copy_6_4, s_X8_copy_6_5, s_X8_copy_6_8, s_X8_copy_6_9, s_X8_copy_6_10, s_X8_copy_6_11, s_X8_copy_6_12, s_X8_copy_6_13, s_X8_copy_6_14, s_X8_copy_6_17, s_X8_copy_6_20, ↓i_lt_t, ↓i_lt_f, ↓i_le_t, ↓i_le_f, ↓i_eq_t, ↓i_eq_f, ↓i_m1a, ↓i_m1b, ↓i_m1c, ↓i_m1d, ↓i_m1e, ↓i_m1f, c_lt, c_le, c_eq, if_pos, if_neg, bnd_some, Option.toList, List.nil_append, List.cons_append, c_add, m1_lt, m1_eq1, m1_eq2, m1_le, ret_1, ret_0, if_true, if_false, eq_self_iff]
  exact q1
theorem fill_23 (sc : Nat × (Nat → Int32)) (I : Nat → Int32) (A : Nat → Nat → Int32) (Z : Int64) (v : Int32) : ∃ g : Nat → Int32, rs sc 83 0 [some (.ref 23), some (.int v), none] [] [] (hp I A Z) = some (none, hp I (setA A 23 g) Z) ∧ ∀ j, j < 12 → g j = v := by
  have lp : ∀ (f j : Nat) (g : Nat → Int32), j + f = 12 → (∀ i, i < j → g i = v) → ∃ g' : Nat → Int32, rs sc 83 2 [some (.ref 23), some (.int v), some (.int (nI j))] [] [] (hp I (setA A 23 g) Z) = some (none, hp I (setA A 23 g') Z) ∧ ∀ i, i < 12 → g' i = v := by
    intro f
    induction f with
    | zero =>
      intro j g hj hg
      have e : j = 12 := by omega
      subst e
      exact ⟨g, by simp (disch := omega) only [s_X7_fill_3_0, s_X7_fill_3_1, s_X7_fill_3_2, s_X7_fill_3_3, s_X7_fill_3_4, s_X7_fill_3_5, s_X7_fill_3_8, s_X7_fill_3_9, s_X7_fill_3_10, s_X7_fill_3_11, s_X7_fill_3_12, s_X7_fill_3_15, s_X7_fill_3_18, ↓i_lt_t, ↓i_lt_f, ↓i_le_t, ↓i_le_f, ↓i_eq_t, ↓i_eq_f, ↓i_m1a, ↓i_m1b, ↓i_m1c, ↓i_m1d, ↓i_m1e, ↓i_m1f, c_lt, c_le, c_eq, if_pos, if_neg, bnd_some, Option.toList, List.nil_append, List.cons_append, c_add, m1_lt, m1_eq1, m1_eq2, m1_le, ret_1, ret_0, if_true, if_false, eq_self_iff], hg⟩
    | succ f ih =>
      intro j g hj hg
      obtain ⟨g', q1, q2⟩ := ih (j + 1) (upd g j v) (by omega) (fun i hi => by
        by_cases e : i = j
        · subst e; exact pk_us
        · rw [pk_un e]; exact hg i (by omega))
      refine ⟨g', ?_, q2⟩
      rw [s_X7_fill_3_2]
      simp (disch := omega) only [s_X7_fill_3_0, s_X7_fill_3_1, s_X7_fill_3_3, s_X7_fill_3_4, s_X7_fill_3_5, s_X7_fill_3_8, s_X7_fill_3_9, s_X7_fill_3_10, s_X7_fill_3_11, s_X7_fill_3_12, s_X7_fill_3_15, s_X7_fill_3_18, ↓i_lt_t, ↓i_lt_f, ↓i_le_t, ↓i_le_f, ↓i_eq_t, ↓i_eq_f, ↓i_m1a, ↓i_m1b, ↓i_m1c, ↓i_m1d, ↓i_m1e, ↓i_m1f, c_lt, c_le, c_eq, if_pos, if_neg, bnd_some, Option.toList, List.nil_append, List.cons_append, c_add, m1_lt, m1_eq1, m1_eq2, m1_le, ret_1, ret_0, if_true, if_false, eq_self_iff, ua_sa]
      exact q1
  obtain ⟨g, q1, q2⟩ := lp 12 0 (A 23) (by omega) (fun i hi => by omega)
  rw [sa_id] at q1
  refine ⟨g, ?_, q2⟩
  simp (disch := omega) only [s_X7_fill_3_0, s_X7_fill_3_1, s_X7_fill_3_3, s_X7_fill_3_4, s_X7_fill_3_5, s_X7_fill_3_8, s_X7_fill_3_9, s_X7_fill_3_10, s_X7_fill_3_11, s_X7_fill_3_12, s_X7_fill_3_15, s_X7_fill_3_18, ↓i_lt_t, ↓i_lt_f, ↓i_le_t, ↓i_le_f, ↓i_eq_t, ↓i_eq_f, ↓i_m1a, ↓i_m1b, ↓i_m1c, ↓i_m1d, ↓i_m1e, ↓i_m1f, c_lt, c_le, c_eq, if_pos, if_neg, bnd_some, Option.toList, List.nil_append, List.cons_append, c_add, m1_lt, m1_eq1, m1_eq2, m1_le, ret_1, ret_0, if_true, if_false, eq_self_iff]
  exact q1
theorem cp_23_22 (sc : Nat × (Nat → Int32)) (I : Nat → Int32) (A : Nat → Nat → Int32) (Z : Int64) : ∃ g : Nat → Int32, rs sc 84 0 [some (.ref 23), some (.ref 22), none] [] [] (hp I A Z) = some (none, hp I (setA A 22 g) Z) ∧ ∀ j, j < 12 → g j = A 23 j := by
  have lp : ∀ (f j : Nat) (g : Nat → Int32), j + f = 12 → (∀ i, i < j → g i = A 23 i) → ∃ g' : Nat → Int32, rs sc 84 2 [some (.ref 23), some (.ref 22), some (.int (nI j))] [] [] (hp I (setA A 22 g) Z) = some (none, hp I (setA A 22 g') Z) ∧ ∀ i, i < 12 → g' i = A 23 i := by
    intro f
    induction f with
    | zero =>
      intro j g hj hg
      have e : j = 12 := by omega
      subst e
      exact ⟨g, by simp (disch := omega) only [s_X7_copy_11_0, s_X7_copy_11_1, s_X7_copy_11_2, s_X7_copy_11_3, s_X7_copy_11_4, s_X7_copy_11_5, s_X7_copy_11_8, s_X7_copy_11_9, s_X7_copy_11_10, s_X7_copy_11_11, s_X7_copy_11_12, s_X7_copy_11_15, s_X7_copy_11_16, s_X7_copy_11_19, s_X7_copy_11_22, ↓i_lt_t, ↓i_lt_f, ↓i_le_t, ↓i_le_f, ↓i_eq_t, ↓i_eq_f, ↓i_m1a, ↓i_m1b, ↓i_m1c, ↓i_m1d, ↓i_m1e, ↓i_m1f, c_lt, c_le, c_eq, if_pos, if_neg, bnd_some, Option.toList, List.nil_append, List.cons_append, c_add, m1_lt, m1_eq1, m1_eq2, m1_le, ret_1, ret_0, if_true, if_false, eq_self_iff], hg⟩
    | succ f ih =>
      intro j g hj hg
      obtain ⟨g', q1, q2⟩ := ih (j + 1) (upd g j (A 23 j)) (by omega) (fun i hi => by
        by_cases e : i = j
        · subst e; exact pk_us
        · rw [pk_un e]; exact hg i (by omega))
      refine ⟨g', ?_, q2⟩
      rw [s_X7_copy_11_2]
      simp (disch := omega) only [s_X7_copy_11_0, s_X7_copy_11_1, s_X7_copy_11_3, s_X7_copy_11_4, s_X7_copy_11_5, s_X7_copy_11_8, s_X7_copy_11_9, s_X7_copy_11_10, s_X7_copy_11_11, s_X7_copy_11_12, s_X7_copy_11_15, s_X7_copy_11_16, s_X7_copy_11_19, s_X7_copy_11_22, ↓i_lt_t, ↓i_lt_f, ↓i_le_t, ↓i_le_f, ↓i_eq_t, ↓i_eq_f, ↓i_m1a, ↓i_m1b, ↓i_m1c, ↓i_m1d, ↓i_m1e, ↓i_m1f, c_lt, c_le, c_eq, if_pos, if_neg, bnd_some, Option.toList, List.nil_append, List.cons_append, c_add, m1_lt, m1_eq1, m1_eq2, m1_le, ret_1, ret_0, if_true, if_false, eq_self_iff, at_23, sa_n, ua_sa]
      exact q1
  obtain ⟨g, q1, q2⟩ := lp 12 0 (A 22) (by omega) (fun i hi => by omega)
  rw [sa_id] at q1
  refine ⟨g, ?_, q2⟩
  simp (disch := omega) only [s_X7_copy_11_0, s_X7_copy_11_1, s_X7_copy_11_3, s_X7_copy_11_4, s_X7_copy_11_5, s_X7_copy_11_8, s_X7_copy_11_9, s_X7_copy_11_10, s_X7_copy_11_11, s_X7_copy_11_12, s_X7_copy_11_15, s_X7_copy_11_16, s_X7_copy_11_19, s_X7_copy_11_22, ↓i_lt_t, ↓i_lt_f, ↓i_le_t, ↓i_le_f, ↓i_eq_t, ↓i_eq_f, ↓i_m1a, ↓i_m1b, ↓i_m1c, ↓i_m1d, ↓i_m1e, ↓i_m1f, c_lt, c_le, c_eq, if_pos, if_neg, bnd_some, Option.toList, List.nil_append, List.cons_append, c_add, m1_lt, m1_eq1, m1_eq2, m1_le, ret_1, ret_0, if_true, if_false, eq_self_iff]
  exact q1
