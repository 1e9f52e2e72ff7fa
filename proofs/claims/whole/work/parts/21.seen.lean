/-! WHAT IS SEEN BY ANY CLERK, on both sides -/
/-- the clerks of the class: n of them, on cells cc, looking the ways cw; dusk k -/
def XC (n k : Nat) (cc cw : Nat → Nat) (I : Nat → Int32) (A : Nat → Nat → Int32) : Prop := I 6 = nI n ∧ n ≤ 3 ∧ I 9 = nI k ∧ k < 2 ∧ ∀ j, j < n → cc j < 12 ∧ cw j < 4 ∧ A 6 j = nI (cc j) ∧ A 7 j = nI (cw j)
def MC2 (n : Nat) (cc cw : Nat → Nat) (I : Nat → Int32) (A : Nat → Nat → Int32) : Prop := I 26 = nI n ∧ n ≤ 3 ∧ ∀ j, j < n → cc j < 12 ∧ cw j < 4 ∧ A 29 (2 * j) = nI (cc j) ∧ A 29 (2 * j + 1) = nI (cw j)
theorem XC.ag {n k : Nat} {cc cw : Nat → Nat} {I I0 : Nat → Int32} {A : Nat → Nat → Int32} (h : XC n k cc cw I0 A) (ha : Ag I I0) : XC n k cc cw I A :=
  ⟨by rw [ha 6 (by decide) (by decide) (by decide)]; exact h.1, h.2.1, by rw [ha 9 (by decide) (by decide) (by decide)]; exact h.2.2.1, h.2.2.2⟩
theorem MC2.ag {n : Nat} {cc cw : Nat → Nat} {I I0 : Nat → Int32} {A : Nat → Nat → Int32} (h : MC2 n cc cw I0 A) (ha : AgM I I0) : MC2 n cc cw I A :=
  ⟨by rw [ha 26 (by decide) (by decide) (by decide)]; exact h.1, h.2⟩
def seenF (s : Nat → Nat) (d k : Nat) (T : Nat → Nat) (cc cw : Nat → Nat) : Nat → Int32
  | 0 => nI 0
  | j + 1 => seenF s d k T cc cw j ||| (sight s d k T (cc j) (cw j)).1
theorem ofClerk_ok (sc : Nat × (Nat → Int32)) (I : Nat → Int32) (A : Nat → Nat → Int32) (Z : Int64) (s : Nat → Nat) (d : Nat) (hX : XH s d I A) (n k : Nat) (cc cw : Nat → Nat) (hC : XC n k cc cw I A) (x : Int32) (T : Nat → Nat) (hT : ∀ c, c < 12 → tb x c = nI (T c) ∧ T c < 2) (j : Nat) (hj : j < n) :
    ∃ I' : Nat → Int32, rs sc 37 0 [some (.ref 17), some (.ref 3), some (.ref 5), some (.int (nI j)), some (.int x)] [] [] (hp I A Z) = some (none, hp I' A Z) ∧ Ag I' I ∧
      I' 14 = (sight s d k T (cc j) (cw j)).1 ∧ I' 15 = (sight s d k T (cc j) (cw j)).2.1 ∧ I' 16 = nI (sight s d k T (cc j) (cw j)).2.2 := by
  obtain ⟨h6, hn, h9, hk, hc⟩ := id hC
  obtain ⟨c1, c2, c3, c4⟩ := hc j hj
  obtain ⟨I', r1, r2, r3⟩ := follow_ok sc I A Z s d hX k hk x T hT (cc j) (cw j) c1 c2
  refine ⟨I', ?_, r2, r3⟩
  simp (disch := omega) only [s_X5_ofClerk_0_0, s_X5_ofClerk_0_1, s_X5_ofClerk_0_2, s_X5_ofClerk_0_3, s_X5_ofClerk_0_6, s_X5_ofClerk_0_8, s_X5_ofClerk_0_9, s_X5_ofClerk_0_12, s_X5_ofClerk_0_13, s_X5_ofClerk_0_16, s_X5_ofClerk_0_17, s_X5_ofClerk_0_20, s_X5_ofClerk_0_21, s_X5_ofClerk_0_24, s_X5_ofClerk_0_27, ↓i_lt_t, ↓i_lt_f, ↓i_le_t, ↓i_le_f, ↓i_eq_t, ↓i_eq_f, ↓i_m1a, ↓i_m1b, ↓i_m1c, ↓i_m1d, ↓i_m1e, ↓i_m1f, c_lt, c_le, c_eq, if_pos, if_neg, bnd_some, Option.toList, List.nil_append, List.cons_append, c_add, m1_lt, m1_eq1, m1_eq2, m1_le, ret_1, ret_0, if_true, if_false, eq_self_iff, at_6, at_7, c3, c4, h9, r1]
theorem any_loop (sc : Nat × (Nat → Int32)) (A : Nat → Nat → Int32) (Z : Int64) (s : Nat → Nat) (d : Nat) (I0 : Nat → Int32) (hX : XH s d I0 A) (n k : Nat) (cc cw : Nat → Nat) (hC : XC n k cc cw I0 A) (x : Int32) (T : Nat → Nat) (hT : ∀ c, c < 12 → tb x c = nI (T c) ∧ T c < 2) :
    ∀ (f j : Nat) (I : Nat → Int32), j + f = n → Ag I I0 →
      ∃ I' : Nat → Int32, rs sc 74 4 [some (.ref 0), some (.int x), some (.int (seenF s d k T cc cw j)), some (.int (nI j))] [] [] (hp I A Z) = some (some (.int (seenF s d k T cc cw n)), hp I' A Z) ∧ Ag I' I0 := by
  intro f
  induction f with
  | zero =>
    intro j I hj hag
    obtain ⟨h6, hn, h9, hk, hc⟩ := hC.ag hag
    have e : j = n := by omega
    subst e
    refine ⟨I, ?_, hag⟩
    simp (disch := omega) only [s_X7_seenByAny_0_0, s_X7_seenByAny_0_1, s_X7_seenByAny_0_2, s_X7_seenByAny_0_3, s_X7_seenByAny_0_4, s_X7_seenByAny_0_5, s_X7_seenByAny_0_6, s_X7_seenByAny_0_9, s_X7_seenByAny_0_12, s_X7_seenByAny_0_15, s_X7_seenByAny_0_16, s_X7_seenByAny_0_19, s_X7_seenByAny_0_20, s_X7_seenByAny_0_23, s_X7_seenByAny_0_24, s_X7_seenByAny_0_27, s_X7_seenByAny_0_28, s_X7_seenByAny_0_29, s_X7_seenByAny_0_32, s_X7_seenByAny_0_33, s_X7_seenByAny_0_34, s_X7_seenByAny_0_37, s_X7_seenByAny_0_40, s_X7_seenByAny_0_41, s_X7_seenByAny_0_42, s_X7_seenByAny_0_45, s_X7_seenByAny_0_48, s_X7_seenByAny_0_49, ↓i_lt_t, ↓i_lt_f, ↓i_le_t, ↓i_le_f, ↓i_eq_t, ↓i_eq_f, ↓i_m1a, ↓i_m1b, ↓i_m1c, ↓i_m1d, ↓i_m1e, ↓i_m1f, c_lt, c_le, c_eq, if_pos, if_neg, bnd_some, Option.toList, List.nil_append, List.cons_append, c_add, m1_lt, m1_eq1, m1_eq2, m1_le, ret_1, ret_0, if_true, if_false, eq_self_iff, h6]
  | succ f ih =>
    intro j I hj hag
    obtain ⟨h6, hn, h9, hk, hc⟩ := hC.ag hag
    obtain ⟨I1, r1, r2, r3, r4, r5⟩ := ofClerk_ok sc I A Z s d (hX.ag hag) n k cc cw (hC.ag hag) x T hT j (by omega)
    obtain ⟨I', q1, q2⟩ := ih (j + 1) I1 (by omega) (r2.tr hag)
    refine ⟨I', ?_, q2⟩
    rw [s_X7_seenByAny_0_4]
    simp (disch := omega) only [s_X7_seenByAny_0_0, s_X7_seenByAny_0_1, s_X7_seenByAny_0_2, s_X7_seenByAny_0_3, s_X7_seenByAny_0_5, s_X7_seenByAny_0_6, s_X7_seenByAny_0_9, s_X7_seenByAny_0_12, s_X7_seenByAny_0_15, s_X7_seenByAny_0_16, s_X7_seenByAny_0_19, s_X7_seenByAny_0_20, s_X7_seenByAny_0_23, s_X7_seenByAny_0_24, s_X7_seenByAny_0_27, s_X7_seenByAny_0_28, s_X7_seenByAny_0_29, s_X7_seenByAny_0_32, s_X7_seenByAny_0_33, s_X7_seenByAny_0_34, s_X7_seenByAny_0_37, s_X7_seenByAny_0_40, s_X7_seenByAny_0_41, s_X7_seenByAny_0_42, s_X7_seenByAny_0_45, s_X7_seenByAny_0_48, s_X7_seenByAny_0_49, ↓i_lt_t, ↓i_lt_f, ↓i_le_t, ↓i_le_f, ↓i_eq_t, ↓i_eq_f, ↓i_m1a, ↓i_m1b, ↓i_m1c, ↓i_m1d, ↓i_m1e, ↓i_m1f, c_lt, c_le, c_eq, if_pos, if_neg, bnd_some, Option.toList, List.nil_append, List.cons_append, c_add, m1_lt, m1_eq1, m1_eq2, m1_le, ret_1, ret_0, if_true, if_false, eq_self_iff, h6, r1, r3]
    exact q1
theorem any_ok (sc : Nat × (Nat → Int32)) (I : Nat → Int32) (A : Nat → Nat → Int32) (Z : Int64) (s : Nat → Nat) (d : Nat) (hX : XH s d I A) (n k : Nat) (cc cw : Nat → Nat) (hC : XC n k cc cw I A) (x : Int32) (T : Nat → Nat) (hT : ∀ c, c < 12 → tb x c = nI (T c) ∧ T c < 2) :
    ∃ I' : Nat → Int32, rs sc 74 0 [some (.ref 0), some (.int x), none, none] [] [] (hp I A Z) = some (some (.int (seenF s d k T cc cw n)), hp I' A Z) ∧ Ag I' I := by
  obtain ⟨I', q1, q2⟩ := any_loop sc A Z s d I hX n k cc cw hC x T hT n 0 I (by omega) (Ag.rf I)
  refine ⟨I', ?_, q2⟩
  simp (disch := omega) only [s_X7_seenByAny_0_0, s_X7_seenByAny_0_1, s_X7_seenByAny_0_2, s_X7_seenByAny_0_3, s_X7_seenByAny_0_5, s_X7_seenByAny_0_6, s_X7_seenByAny_0_9, s_X7_seenByAny_0_12, s_X7_seenByAny_0_15, s_X7_seenByAny_0_16, s_X7_seenByAny_0_19, s_X7_seenByAny_0_20, s_X7_seenByAny_0_23, s_X7_seenByAny_0_24, s_X7_seenByAny_0_27, s_X7_seenByAny_0_28, s_X7_seenByAny_0_29, s_X7_seenByAny_0_32, s_X7_seenByAny_0_33, s_X7_seenByAny_0_34, s_X7_seenByAny_0_37, s_X7_seenByAny_0_40, s_X7_seenByAny_0_41, s_X7_seenByAny_0_42, s_X7_seenByAny_0_45, s_X7_seenByAny_0_48, s_X7_seenByAny_0_49, ↓i_lt_t, ↓i_lt_f, ↓i_le_t, ↓i_le_f, ↓i_eq_t, ↓i_eq_f, ↓i_m1a, ↓i_m1b, ↓i_m1c, ↓i_m1d, ↓i_m1e, ↓i_m1f, c_lt, c_le, c_eq, if_pos, if_neg, bnd_some, Option.toList, List.nil_append, List.cons_append, c_add, m1_lt, m1_eq1, m1_eq2, m1_le, ret_1, ret_0, if_true, if_false, eq_self_iff]
  exact q1
theorem tb0 (c : Nat) (hc : c < 12) : tb (nI 0) c = nI 0 := (by decide : ∀ c, c < 12 → tb (nI 0) c = nI 0) c hc
theorem c_mul (a b : Nat) : nI a * nI b = nI (a * b) := pk_mul a b
theorem mAny_loop (sc : Nat × (Nat → Int32)) (A : Nat → Nat → Int32) (Z : Int64) (s : Nat → Nat) (d k : Nat) (I0 : Nat → Int32) (hX : MH s d k I0 A) (n : Nat) (cc cw : Nat → Nat) (hC : MC2 n cc cw I0 A) :
    ∀ (f j : Nat) (I : Nat → Int32), j + f = n → AgM I I0 →
      ∃ I' : Nat → Int32, rs sc 103 4 [some (.ref 26), some (.int (seenF s d k (fun _ => 0) cc cw j)), some (.int (nI j))] [] [] (hp I A Z) = some (some (.int (seenF s d k (fun _ => 0) cc cw n)), hp I' A Z) ∧ AgM I' I0 := by
  intro f
  induction f with
  | zero =>
    intro j I hj hag
    obtain ⟨h6, hn, hc⟩ := hC.ag hag
    have e : j = n := by omega
    subst e
    refine ⟨I, ?_, hag⟩
    simp (disch := omega) only [s_X8_seenBits_0_0, s_X8_seenBits_0_1, s_X8_seenBits_0_2, s_X8_seenBits_0_3, s_X8_seenBits_0_4, s_X8_seenBits_0_5, s_X8_seenBits_0_6, s_X8_seenBits_0_9, s_X8_seenBits_0_12, s_X8_seenBits_0_13, s_X8_seenBits_0_14, s_X8_seenBits_0_17, s_X8_seenBits_0_18, s_X8_seenBits_0_19, s_X8_seenBits_0_20, s_X8_seenBits_0_21, s_X8_seenBits_0_22, s_X8_seenBits_0_25, s_X8_seenBits_0_26, s_X8_seenBits_0_27, s_X8_seenBits_0_28, s_X8_seenBits_0_29, s_X8_seenBits_0_30, s_X8_seenBits_0_31, s_X8_seenBits_0_34, s_X8_seenBits_0_35, s_X8_seenBits_0_36, s_X8_seenBits_0_39, s_X8_seenBits_0_40, s_X8_seenBits_0_41, s_X8_seenBits_0_44, s_X8_seenBits_0_47, s_X8_seenBits_0_48, ↓i_lt_t, ↓i_lt_f, ↓i_le_t, ↓i_le_f, ↓i_eq_t, ↓i_eq_f, ↓i_m1a, ↓i_m1b, ↓i_m1c, ↓i_m1d, ↓i_m1e, ↓i_m1f, c_lt, c_le, c_eq, if_pos, if_neg, bnd_some, Option.toList, List.nil_append, List.cons_append, c_add, m1_lt, m1_eq1, m1_eq2, m1_le, ret_1, ret_0, if_true, if_false, eq_self_iff, h6]
  | succ f ih =>
    intro j I hj hag
    obtain ⟨h6, hn, hc⟩ := hC.ag hag
    obtain ⟨c1, c2, c3, c4⟩ := hc j (by omega)
    obtain ⟨I1, r1, r2, r3, r4, r5⟩ := lay_ok sc I A Z s d k (hX.ag hag) (cc j) (cw j) c1 c2
    obtain ⟨I', q1, q2⟩ := ih (j + 1) I1 (by omega) (r2.tr hag)
    refine ⟨I', ?_, q2⟩
    rw [s_X8_seenBits_0_4]
    simp (disch := omega) only [s_X8_seenBits_0_0, s_X8_seenBits_0_1, s_X8_seenBits_0_2, s_X8_seenBits_0_3, s_X8_seenBits_0_5, s_X8_seenBits_0_6, s_X8_seenBits_0_9, s_X8_seenBits_0_12, s_X8_seenBits_0_13, s_X8_seenBits_0_14, s_X8_seenBits_0_17, s_X8_seenBits_0_18, s_X8_seenBits_0_19, s_X8_seenBits_0_20, s_X8_seenBits_0_21, s_X8_seenBits_0_22, s_X8_seenBits_0_25, s_X8_seenBits_0_26, s_X8_seenBits_0_27, s_X8_seenBits_0_28, s_X8_seenBits_0_29, s_X8_seenBits_0_30, s_X8_seenBits_0_31, s_X8_seenBits_0_34, s_X8_seenBits_0_35, s_X8_seenBits_0_36, s_X8_seenBits_0_39, s_X8_seenBits_0_40, s_X8_seenBits_0_41, s_X8_seenBits_0_44, s_X8_seenBits_0_47, s_X8_seenBits_0_48, ↓i_lt_t, ↓i_lt_f, ↓i_le_t, ↓i_le_f, ↓i_eq_t, ↓i_eq_f, ↓i_m1a, ↓i_m1b, ↓i_m1c, ↓i_m1d, ↓i_m1e, ↓i_m1f, c_lt, c_le, c_eq, if_pos, if_neg, bnd_some, Option.toList, List.nil_append, List.cons_append, c_add, m1_lt, m1_eq1, m1_eq2, m1_le, ret_1, ret_0, if_true, if_false, eq_self_iff, h6, c_mul, c3, c4, r1, r3]
    exact q1
theorem mAny_ok (sc : Nat × (Nat → Int32)) (I : Nat → Int32) (A : Nat → Nat → Int32) (Z : Int64) (s : Nat → Nat) (d k : Nat) (hX : MH s d k I A) (n : Nat) (cc cw : Nat → Nat) (hC : MC2 n cc cw I A) :
    ∃ I' : Nat → Int32, rs sc 103 0 [some (.ref 26), none, none] [] [] (hp I A Z) = some (some (.int (seenF s d k (fun _ => 0) cc cw n)), hp I' A Z) ∧ AgM I' I := by
  obtain ⟨I', q1, q2⟩ := mAny_loop sc A Z s d k I hX n cc cw hC n 0 I (by omega) (AgM.rf I)
  refine ⟨I', ?_, q2⟩
  simp (disch := omega) only [s_X8_seenBits_0_0, s_X8_seenBits_0_1, s_X8_seenBits_0_2, s_X8_seenBits_0_3, s_X8_seenBits_0_5, s_X8_seenBits_0_6, s_X8_seenBits_0_9, s_X8_seenBits_0_12, s_X8_seenBits_0_13, s_X8_seenBits_0_14, s_X8_seenBits_0_17, s_X8_seenBits_0_18, s_X8_seenBits_0_19, s_X8_seenBits_0_20, s_X8_seenBits_0_21, s_X8_seenBits_0_22, s_X8_seenBits_0_25, s_X8_seenBits_0_26, s_X8_seenBits_0_27, s_X8_seenBits_0_28, s_X8_seenBits_0_29, s_X8_seenBits_0_30, s_X8_seenBits_0_31, s_X8_seenBits_0_34, s_X8_seenBits_0_35, s_X8_seenBits_0_36, s_X8_seenBits_0_39, s_X8_seenBits_0_40, s_X8_seenBits_0_41, s_X8_seenBits_0_44, s_X8_seenBits_0_47, s_X8_seenBits_0_48, ↓i_lt_t, ↓i_lt_f, ↓i_le_t, ↓i_le_f, ↓i_eq_t, ↓i_eq_f, ↓i_m1a, ↓i_m1b, ↓i_m1c, ↓i_m1d, ↓i_m1e, ↓i_m1f, c_lt, c_le, c_eq, if_pos, if_neg, bnd_some, Option.toList, List.nil_append, List.cons_append, c_add, m1_lt, m1_eq1, m1_eq2, m1_le, ret_1, ret_0, if_true, if_false, eq_self_iff]
  exact q1
