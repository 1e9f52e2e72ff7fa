/-! WALK: the class's reckoning -/
def gI (n : Nat) : Int32 := if n = 0 then -1 else nI (n - 1)
theorem gI_0 : gI 0 = -1 := if_pos rfl
theorem gI_s (n : Nat) : gI (n + 1) = nI n := if_neg (Nat.succ_ne_zero n)
def eb (x : Int32) (c : Nat) : Nat := if tb x c = nI 0 then 0 else 1
theorem eb_ok (x : Int32) (c : Nat) : tb x c = nI (eb x c) := by
  unfold eb
  rcases tb_01 x c with h | h
  · rw [if_pos h]; exact h
  · rw [if_neg (by rw [h]; decide)]; exact h
theorem eb_le (x : Int32) (c : Nat) : eb x c ≤ 1 := by
  unfold eb
  split <;> omega
section
theorem ch_loop (sc : Nat × (Nat → Int32)) (I : Nat → Int32) (Z : Int64) (s : Nat → Nat) (d : Nat) (seen : Int32) (P : Nat → Nat) (hP : ∀ j, j < 12 → P j ≤ 1000000) (c : Nat) (hc : c < 12) :
    ∀ (f w : Nat) (A : Nat → Nat → Int32) (l6 l7 : Option Value) (L g : Nat), w + f = 4 → XH s d I A → (∀ j, j < 12 → A 19 j = nI (P j)) → A 20 c = gI g → CH s (eb seen) P c w L g →
      ∃ (A' : Nat → Nat → Int32) (L' g' : Nat), rs sc 47 7 [some (.ref 18), some (.ref 3), some (.int seen), some (.int (nI c)), some (.int (nI L)), some (.int (nI w)), l6, l7] [] [] (hp I A Z) = some (none, hp I A' Z) ∧ CH s (eb seen) P c 4 L' g' ∧ A' 19 = upd (A 19) c (nI L') ∧ A' 20 c = gI g' ∧ (∀ j, j ≠ c → A' 20 j = A 20 j) ∧ (∀ p, p ≠ 19 → p ≠ 20 → A' p = A p) := by
  intro f
  induction f with
  | zero =>
    intro w A l6 l7 L g hw hX h19 h20 hC
    have e : w = 4 := by omega
    subst e
    refine ⟨ua A 19 c (nI L), L, g, ?_, hC, by rw [ua_set, sa_s], by rw [ua_set, sa_n (by decide)]; exact h20, fun j _ => by rw [ua_set, sa_n (by decide)], fun p a b => by rw [ua_set, sa_n a]⟩
    rw [s_X6_choose_0_7]
    simp (disch := omega) only [s_X6_choose_0_0, s_X6_choose_0_2, s_X6_choose_0_4, s_X6_choose_0_5, s_X6_choose_0_9, s_X6_choose_0_10, s_X6_choose_0_13, s_X6_choose_0_14, s_X6_choose_0_15, s_X6_choose_0_17, s_X6_choose_0_20, s_X6_choose_0_22, s_X6_choose_0_24, s_X6_choose_0_25, s_X6_choose_0_28, s_X6_choose_0_30, s_X6_choose_0_33, s_X6_choose_0_34, s_X6_choose_0_37, s_X6_choose_0_39, s_X6_choose_0_42, s_X6_choose_0_43, s_X6_choose_0_44, s_X6_choose_0_46, s_X6_choose_0_47, s_X6_choose_0_49, s_X6_choose_0_52, s_X6_choose_0_53, s_X6_choose_0_54, s_X6_choose_0_56, s_X6_choose_0_58, s_X6_choose_0_60, s_X6_choose_0_63, s_X6_choose_0_65, s_X6_choose_0_67, s_X6_choose_0_68, s_X6_choose_0_71, s_X6_choose_0_72, s_X6_choose_0_74, s_X6_choose_0_77, s_X6_choose_0_80, s_X6_choose_0_83, s_X6_choose_0_84, s_X6_choose_0_87, s_X6_choose_0_88, s_X6_choose_0_90, s_X6_choose_0_93, ↓i_lt_t, ↓i_lt_f, ↓i_le_t, ↓i_le_f, ↓i_eq_t, ↓i_eq_f, ↓i_m1a, ↓i_m1b, ↓i_m1c, ↓i_m1d, ↓i_m1e, ↓i_m1f, c_lt, c_le, c_eq, if_pos, if_neg, bnd_some, Option.toList, List.nil_append, List.cons_append, c_add, m1_lt, m1_eq1, m1_eq2, m1_le, ret_1, ret_0, if_true, if_false, eq_self_iff, put_19]
  | succ f ih =>
    intro w A l6 l7 L g hw hX h19 h20 hC
    have hL := hC.1
    have hfb := floorBeside_ok sc I A Z s d hX c w hc (by omega)
    have hle := fb_le s c w
    rw [s_X6_choose_0_7]
    by_cases h12 : fb s c w = 12
    · rw [cI_12 h12] at hfb
      obtain ⟨A', L', g', q1, q2⟩ := ih (w + 1) A (some (.int (-1))) (some (.int (nI 1000000))) L g (by omega) hX h19 h20 (hC.skip (fun q => absurd q (by omega)))
      refine ⟨A', L', g', ?_, q2⟩
      simp (disch := omega) only [s_X6_choose_0_0, s_X6_choose_0_2, s_X6_choose_0_4, s_X6_choose_0_5, s_X6_choose_0_9, s_X6_choose_0_10, s_X6_choose_0_13, s_X6_choose_0_14, s_X6_choose_0_15, s_X6_choose_0_17, s_X6_choose_0_20, s_X6_choose_0_22, s_X6_choose_0_24, s_X6_choose_0_25, s_X6_choose_0_28, s_X6_choose_0_30, s_X6_choose_0_33, s_X6_choose_0_34, s_X6_choose_0_37, s_X6_choose_0_39, s_X6_choose_0_42, s_X6_choose_0_43, s_X6_choose_0_44, s_X6_choose_0_46, s_X6_choose_0_47, s_X6_choose_0_49, s_X6_choose_0_52, s_X6_choose_0_53, s_X6_choose_0_54, s_X6_choose_0_56, s_X6_choose_0_58, s_X6_choose_0_60, s_X6_choose_0_63, s_X6_choose_0_65, s_X6_choose_0_67, s_X6_choose_0_68, s_X6_choose_0_71, s_X6_choose_0_72, s_X6_choose_0_74, s_X6_choose_0_77, s_X6_choose_0_80, s_X6_choose_0_84, s_X6_choose_0_87, s_X6_choose_0_88, s_X6_choose_0_90, s_X6_choose_0_93, ↓i_lt_t, ↓i_lt_f, ↓i_le_t, ↓i_le_f, ↓i_eq_t, ↓i_eq_f, ↓i_m1a, ↓i_m1b, ↓i_m1c, ↓i_m1d, ↓i_m1e, ↓i_m1f, c_lt, c_le, c_eq, if_pos, if_neg, bnd_some, Option.toList, List.nil_append, List.cons_append, c_add, m1_lt, m1_eq1, m1_eq2, m1_le, ret_1, ret_0, if_true, if_false, eq_self_iff, hfb]
      exact q1
    · have hlt : fb s c w < 12 := by omega
      rw [cI_lt hlt] at hfb
      have hp1 := hP _ hlt
      have h19q := h19 _ hlt
      have heb := eb_ok seen (fb s c w)
      have hel := eb_le seen (fb s c w)
      by_cases hs : L ≤ pr s (eb seen) P c w
      · obtain ⟨A', L', g', q1, q2⟩ := ih (w + 1) A (some (.int (nI (fb s c w)))) (some (.int (nI (pr s (eb seen) P c w)))) L g (by omega) hX h19 h20 (hC.skip (fun _ => hs))
        refine ⟨A', L', g', ?_, q2⟩
        unfold pr at hs q1
        simp (disch := omega) only [s_X6_choose_0_0, s_X6_choose_0_2, s_X6_choose_0_4, s_X6_choose_0_5, s_X6_choose_0_9, s_X6_choose_0_10, s_X6_choose_0_13, s_X6_choose_0_14, s_X6_choose_0_15, s_X6_choose_0_17, s_X6_choose_0_20, s_X6_choose_0_22, s_X6_choose_0_24, s_X6_choose_0_25, s_X6_choose_0_28, s_X6_choose_0_30, s_X6_choose_0_33, s_X6_choose_0_34, s_X6_choose_0_37, s_X6_choose_0_39, s_X6_choose_0_42, s_X6_choose_0_43, s_X6_choose_0_44, s_X6_choose_0_46, s_X6_choose_0_47, s_X6_choose_0_49, s_X6_choose_0_52, s_X6_choose_0_53, s_X6_choose_0_54, s_X6_choose_0_56, s_X6_choose_0_58, s_X6_choose_0_60, s_X6_choose_0_63, s_X6_choose_0_65, s_X6_choose_0_67, s_X6_choose_0_68, s_X6_choose_0_71, s_X6_choose_0_72, s_X6_choose_0_74, s_X6_choose_0_77, s_X6_choose_0_80, s_X6_choose_0_84, s_X6_choose_0_87, s_X6_choose_0_88, s_X6_choose_0_90, s_X6_choose_0_93, ↓i_lt_t, ↓i_lt_f, ↓i_le_t, ↓i_le_f, ↓i_eq_t, ↓i_eq_f, ↓i_m1a, ↓i_m1b, ↓i_m1c, ↓i_m1d, ↓i_m1e, ↓i_m1f, c_lt, c_le, c_eq, if_pos, if_neg, bnd_some, Option.toList, List.nil_append, List.cons_append, c_add, m1_lt, m1_eq1, m1_eq2, m1_le, ret_1, ret_0, if_true, if_false, eq_self_iff, hfb, at_19, h19q, bit_in, heb, c_mul]
        exact q1
      · obtain ⟨A', L', g', q1, q2, q3, q4, q5, q6⟩ := ih (w + 1) (ua A 20 c (nI w)) (some (.int (nI (fb s c w)))) (some (.int (nI (pr s (eb seen) P c w)))) (pr s (eb seen) P c w) (w + 1) (by omega) (hX.fr rfl rfl (by rw [ua_set, sa_n (by decide)])) (fun j hj => by rw [ua_set, sa_n (by decide)]; exact h19 j hj) (by rw [ua_set, sa_s, pk_us, gI_s]) (hC.take hlt (by omega))
        refine ⟨A', L', g', ?_, q2, by rw [q3, ua_set, sa_n (by decide)], q4, fun j hj => by rw [q5 j hj, ua_set, sa_s, pk_un hj], fun p a b => by rw [q6 p a b, ua_set, sa_n b]⟩
        unfold pr at hs q1
        simp (disch := omega) only [s_X6_choose_0_0, s_X6_choose_0_2, s_X6_choose_0_4, s_X6_choose_0_5, s_X6_choose_0_9, s_X6_choose_0_10, s_X6_choose_0_13, s_X6_choose_0_14, s_X6_choose_0_15, s_X6_choose_0_17, s_X6_choose_0_20, s_X6_choose_0_22, s_X6_choose_0_24, s_X6_choose_0_25, s_X6_choose_0_28, s_X6_choose_0_30, s_X6_choose_0_33, s_X6_choose_0_34, s_X6_choose_0_37, s_X6_choose_0_39, s_X6_choose_0_42, s_X6_choose_0_43, s_X6_choose_0_44, s_X6_choose_0_46, s_X6_choose_0_47, s_X6_choose_0_49, s_X6_choose_0_52, s_X6_choose_0_53, s_X6_choose_0_54, s_X6_choose_0_56, s_X6_choose_0_58, s_X6_choose_0_60, s_X6_choose_0_63, s_X6_choose_0_65, s_X6_choose_0_67, s_X6_choose_0_68, s_X6_choose_0_71, s_X6_choose_0_72, s_X6_choose_0_74, s_X6_choose_0_77, s_X6_choose_0_80, s_X6_choose_0_84, s_X6_choose_0_87, s_X6_choose_0_88, s_X6_choose_0_90, s_X6_choose_0_93, ↓i_lt_t, ↓i_lt_f, ↓i_le_t, ↓i_le_f, ↓i_eq_t, ↓i_eq_f, ↓i_m1a, ↓i_m1b, ↓i_m1c, ↓i_m1d, ↓i_m1e, ↓i_m1f, c_lt, c_le, c_eq, if_pos, if_neg, bnd_some, Option.toList, List.nil_append, List.cons_append, c_add, m1_lt, m1_eq1, m1_eq2, m1_le, ret_1, ret_0, if_true, if_false, eq_self_iff, hfb, at_19, h19q, bit_in, heb, c_mul, put_20]
        exact q1
theorem choose_ok (sc : Nat × (Nat → Int32)) (I : Nat → Int32) (A : Nat → Nat → Int32) (Z : Int64) (s : Nat → Nat) (d : Nat) (hX : XH s d I A) (seen : Int32) (P : Nat → Nat) (hP : ∀ j, j < 12 → P j ≤ 1000000) (c : Nat) (hc : c < 12) (h19 : ∀ j, j < 12 → A 19 j = nI (P j)) (g : Nat) (h20 : A 20 c = gI g) :
    ∃ (A' : Nat → Nat → Int32) (L' g' : Nat), rs sc 47 0 [some (.ref 18), some (.ref 3), some (.int seen), some (.int (nI c)), none, none, none, none] [] [] (hp I A Z) = some (none, hp I A' Z) ∧ CH s (eb seen) P c 4 L' g' ∧ A' 19 = upd (A 19) c (nI L') ∧ A' 20 c = gI g' ∧ (∀ j, j ≠ c → A' 20 j = A 20 j) ∧ (∀ p, p ≠ 19 → p ≠ 20 → A' p = A p) := by
  obtain ⟨A', L', g', q1, q2⟩ := ch_loop sc I Z s d seen P hP c hc 4 0 A none none 1000000 g (by omega) hX h19 h20 (CH.zero s (eb seen) P c g)
  refine ⟨A', L', g', ?_, q2⟩
  simp (disch := omega) only [s_X6_choose_0_0, s_X6_choose_0_2, s_X6_choose_0_4, s_X6_choose_0_5]
  exact q1
/-- the class's prices and first ways, and all else as it was -/
def WX (s : Nat → Nat) (seen : Int32) (t : Nat) (A0 A : Nat → Nat → Int32) (P G : Nat → Nat) (r c : Nat) : Prop :=
  (∀ p, p ≠ 19 → p ≠ 20 → A p = A0 p) ∧ (∀ j, j < 12 → A 19 j = nI (P j) ∧ A 20 j = gI (G j)) ∧ P t = 0 ∧ G t = 0 ∧ ∀ j, j < 12 → j ≠ t → PS s (eb seen) t (if j < c then r + 1 else r) j (P j) (G j)
theorem WX.le {s : Nat → Nat} {seen : Int32} {t : Nat} {A0 A : Nat → Nat → Int32} {P G : Nat → Nat} {r c : Nat} (h : WX s seen t A0 A P G r c) : ∀ j, j < 12 → P j ≤ 1000000 := fun j hj => by
  by_cases e : j = t
  · rw [e, h.2.2.1]; omega
  · exact (h.2.2.2.2 j hj e).1
theorem rc_in (sc : Nat × (Nat → Int32)) (I : Nat → Int32) (Z : Int64) (s : Nat → Nat) (d : Nat) (A0 : Nat → Nat → Int32) (hX : XH s d I A0) (seen : Int32) (t : Nat) (ht : t < 12) (r : Nat) (hr : r < 12) :
    ∀ (f c : Nat) (A : Nat → Nat → Int32) (P G : Nat → Nat), c + f = 12 → WX s seen t A0 A P G r c →
      ∃ (A' : Nat → Nat → Int32) (P' G' : Nat → Nat), rs sc 42 39 [some (.ref 18), some (.ref 3), some (.int seen), some (.int (nI t)), some (.int (nI r)), some (.int (nI c))] [] [] (hp I A Z) = rs sc 42 66 [some (.ref 18), some (.ref 3), some (.int seen), some (.int (nI t)), some (.int (nI r)), some (.int (nI 12))] [] [] (hp I A' Z) ∧ WX s seen t A0 A' P' G' (r + 1) 0 := by
  intro f
  induction f with
  | zero =>
    intro c A P G hc hW
    have e : c = 12 := by omega
    subst e
    obtain ⟨w1, w2, w3, w4, w5⟩ := hW
    refine ⟨A, P, G, ?_, w1, w2, w3, w4, fun j hj hjt => ?_⟩
    · rw [s_X6_reckon_0_39]
      simp (disch := omega) only [s_X6_reckon_0_0, s_X6_reckon_0_1, s_X6_reckon_0_4, s_X6_reckon_0_6, s_X6_reckon_0_9, s_X6_reckon_0_10, s_X6_reckon_0_13, s_X6_reckon_0_14, s_X6_reckon_0_17, s_X6_reckon_0_18, s_X6_reckon_0_21, s_X6_reckon_0_22, s_X6_reckon_0_23, s_X6_reckon_0_26, s_X6_reckon_0_27, s_X6_reckon_0_29, s_X6_reckon_0_31, s_X6_reckon_0_33, s_X6_reckon_0_36, s_X6_reckon_0_37, s_X6_reckon_0_41, s_X6_reckon_0_43, s_X6_reckon_0_46, s_X6_reckon_0_48, s_X6_reckon_0_49, s_X6_reckon_0_52, s_X6_reckon_0_53, s_X6_reckon_0_54, s_X6_reckon_0_55, s_X6_reckon_0_57, s_X6_reckon_0_60, s_X6_reckon_0_63, s_X6_reckon_0_69, s_X6_reckon_0_72, ↓i_lt_t, ↓i_lt_f, ↓i_le_t, ↓i_le_f, ↓i_eq_t, ↓i_eq_f, ↓i_m1a, ↓i_m1b, ↓i_m1c, ↓i_m1d, ↓i_m1e, ↓i_m1f, c_lt, c_le, c_eq, if_pos, if_neg, bnd_some, Option.toList, List.nil_append, List.cons_append, c_add, m1_lt, m1_eq1, m1_eq2, m1_le, ret_1, ret_0, if_true, if_false, eq_self_iff]
    · have := w5 j hj hjt
      rw [if_pos hj] at this
      rw [if_neg (by omega)]
      exact this
  | succ f ih =>
    intro c A P G hc hW
    obtain ⟨w1, w2, w3, w4, w5⟩ := id hW
    by_cases hct : c = t
    · obtain ⟨A', P', G', q1, q2⟩ := ih (c + 1) A P G (by omega) ⟨w1, w2, w3, w4, fun j hj hjt => by
        have := w5 j hj hjt
        by_cases e : j < c
        · rw [if_pos e] at this; rw [if_pos (by omega)]; exact this
        · rw [if_neg e] at this; rw [if_neg (by omega)]; exact this⟩
      refine ⟨A', P', G', ?_, q2⟩
      rw [s_X6_reckon_0_39]
      simp (disch := omega) only [s_X6_reckon_0_0, s_X6_reckon_0_1, s_X6_reckon_0_4, s_X6_reckon_0_6, s_X6_reckon_0_9, s_X6_reckon_0_10, s_X6_reckon_0_13, s_X6_reckon_0_14, s_X6_reckon_0_17, s_X6_reckon_0_18, s_X6_reckon_0_21, s_X6_reckon_0_22, s_X6_reckon_0_23, s_X6_reckon_0_26, s_X6_reckon_0_27, s_X6_reckon_0_29, s_X6_reckon_0_31, s_X6_reckon_0_33, s_X6_reckon_0_36, s_X6_reckon_0_37, s_X6_reckon_0_41, s_X6_reckon_0_43, s_X6_reckon_0_46, s_X6_reckon_0_48, s_X6_reckon_0_49, s_X6_reckon_0_52, s_X6_reckon_0_53, s_X6_reckon_0_54, s_X6_reckon_0_55, s_X6_reckon_0_57, s_X6_reckon_0_60, s_X6_reckon_0_63, s_X6_reckon_0_69, s_X6_reckon_0_72, ↓i_lt_t, ↓i_lt_f, ↓i_le_t, ↓i_le_f, ↓i_eq_t, ↓i_eq_f, ↓i_m1a, ↓i_m1b, ↓i_m1c, ↓i_m1d, ↓i_m1e, ↓i_m1f, c_lt, c_le, c_eq, if_pos, if_neg, bnd_some, Option.toList, List.nil_append, List.cons_append, c_add, m1_lt, m1_eq1, m1_eq2, m1_le, ret_1, ret_0, if_true, if_false, eq_self_iff, hct]
      rw [hct] at q1
      exact q1
    · have hX2 : XH s d I A := hX.fr rfl rfl (w1 4 (by decide) (by decide))
      obtain ⟨A1, L, g, c1, c2, c3, c4, c5, c6⟩ := choose_ok sc I A Z s d hX2 seen P hW.le c (by omega) (fun j hj => (w2 j hj).1) (G c) (w2 c (by omega)).2
      have hps := PS.choose (eb_le seen) (t := t) (r := r) (by omega) w3 (fun j hj hjt => (w5 j hj hjt).mono (by split <;> omega)) c2
      obtain ⟨A', P', G', q1, q2⟩ := ih (c + 1) A1 (un P c L) (un G c g) (by omega) ⟨fun p a b => (c6 p a b).trans (w1 p a b), fun j hj => by
        by_cases e : j = c
        · subst e; rw [un_s, un_s, c3, pk_us]; exact ⟨rfl, c4⟩
        · rw [un_n e, un_n e, c3, pk_un e, c5 j e]; exact w2 j hj, by rw [un_n (Ne.symm hct)]; exact w3, by rw [un_n (Ne.symm hct)]; exact w4, fun j hj hjt => by
        by_cases e : j = c
        · subst e; rw [un_s, un_s, if_pos (by omega)]; exact hps
        · rw [un_n e, un_n e]
          have := w5 j hj hjt
          by_cases e2 : j < c
          · rw [if_pos e2] at this; rw [if_pos (by omega)]; exact this
          · rw [if_neg e2] at this; rw [if_neg (by omega)]; exact this⟩
      refine ⟨A', P', G', ?_, q2⟩
      rw [s_X6_reckon_0_39]
      simp (disch := omega) only [s_X6_reckon_0_0, s_X6_reckon_0_1, s_X6_reckon_0_4, s_X6_reckon_0_6, s_X6_reckon_0_9, s_X6_reckon_0_10, s_X6_reckon_0_13, s_X6_reckon_0_14, s_X6_reckon_0_17, s_X6_reckon_0_18, s_X6_reckon_0_21, s_X6_reckon_0_22, s_X6_reckon_0_23, s_X6_reckon_0_26, s_X6_reckon_0_27, s_X6_reckon_0_29, s_X6_reckon_0_31, s_X6_reckon_0_33, s_X6_reckon_0_36, s_X6_reckon_0_37, s_X6_reckon_0_41, s_X6_reckon_0_43, s_X6_reckon_0_46, s_X6_reckon_0_48, s_X6_reckon_0_49, s_X6_reckon_0_52, s_X6_reckon_0_53, s_X6_reckon_0_54, s_X6_reckon_0_55, s_X6_reckon_0_57, s_X6_reckon_0_60, s_X6_reckon_0_63, s_X6_reckon_0_69, s_X6_reckon_0_72, ↓i_lt_t, ↓i_lt_f, ↓i_le_t, ↓i_le_f, ↓i_eq_t, ↓i_eq_f, ↓i_m1a, ↓i_m1b, ↓i_m1c, ↓i_m1d, ↓i_m1e, ↓i_m1f, c_lt, c_le, c_eq, if_pos, if_neg, bnd_some, Option.toList, List.nil_append, List.cons_append, c_add, m1_lt, m1_eq1, m1_eq2, m1_le, ret_1, ret_0, if_true, if_false, eq_self_iff, c1]
      exact q1
theorem rc_loop (sc : Nat × (Nat → Int32)) (I : Nat → Int32) (Z : Int64) (s : Nat → Nat) (d : Nat) (A0 : Nat → Nat → Int32) (hX : XH s d I A0) (seen : Int32) (t : Nat) (ht : t < 12) :
    ∀ (f r : Nat) (A : Nat → Nat → Int32) (P G : Nat → Nat) (l5 : Option Value), r + f = 12 → WX s seen t A0 A P G r 0 →
      ∃ (A' : Nat → Nat → Int32) (P' G' : Nat → Nat), rs sc 42 29 [some (.ref 18), some (.ref 3), some (.int seen), some (.int (nI t)), some (.int (nI r)), l5] [] [] (hp I A Z) = some (none, hp I A' Z) ∧ WX s seen t A0 A' P' G' 12 0 := by
  intro f
  induction f with
  | zero =>
    intro r A P G l5 hr hW
    have e : r = 12 := by omega
    subst e
    refine ⟨A, P, G, ?_, hW⟩
    rw [s_X6_reckon_0_29]
    simp (disch := omega) only [s_X6_reckon_0_0, s_X6_reckon_0_1, s_X6_reckon_0_4, s_X6_reckon_0_6, s_X6_reckon_0_9, s_X6_reckon_0_10, s_X6_reckon_0_13, s_X6_reckon_0_14, s_X6_reckon_0_17, s_X6_reckon_0_18, s_X6_reckon_0_21, s_X6_reckon_0_22, s_X6_reckon_0_23, s_X6_reckon_0_26, s_X6_reckon_0_27, s_X6_reckon_0_31, s_X6_reckon_0_33, s_X6_reckon_0_36, s_X6_reckon_0_37, s_X6_reckon_0_41, s_X6_reckon_0_43, s_X6_reckon_0_46, s_X6_reckon_0_48, s_X6_reckon_0_49, s_X6_reckon_0_52, s_X6_reckon_0_53, s_X6_reckon_0_54, s_X6_reckon_0_55, s_X6_reckon_0_57, s_X6_reckon_0_60, s_X6_reckon_0_63, s_X6_reckon_0_66, s_X6_reckon_0_69, s_X6_reckon_0_72, ↓i_lt_t, ↓i_lt_f, ↓i_le_t, ↓i_le_f, ↓i_eq_t, ↓i_eq_f, ↓i_m1a, ↓i_m1b, ↓i_m1c, ↓i_m1d, ↓i_m1e, ↓i_m1f, c_lt, c_le, c_eq, if_pos, if_neg, bnd_some, Option.toList, List.nil_append, List.cons_append, c_add, m1_lt, m1_eq1, m1_eq2, m1_le, ret_1, ret_0, if_true, if_false, eq_self_iff]
  | succ f ih =>
    intro r A P G l5 hr hW
    obtain ⟨A1, P1, G1, q1, q2⟩ := rc_in sc I Z s d A0 hX seen t ht r (by omega) 12 0 A P G (by omega) hW
    obtain ⟨A', P', G', r1, r2⟩ := ih (r + 1) A1 P1 G1 (some (.int (nI 12))) (by omega) q2
    refine ⟨A', P', G', ?_, r2⟩
    rw [s_X6_reckon_0_29]
    simp (disch := omega) only [s_X6_reckon_0_0, s_X6_reckon_0_1, s_X6_reckon_0_4, s_X6_reckon_0_6, s_X6_reckon_0_9, s_X6_reckon_0_10, s_X6_reckon_0_13, s_X6_reckon_0_14, s_X6_reckon_0_17, s_X6_reckon_0_18, s_X6_reckon_0_21, s_X6_reckon_0_22, s_X6_reckon_0_23, s_X6_reckon_0_26, s_X6_reckon_0_27, s_X6_reckon_0_31, s_X6_reckon_0_33, s_X6_reckon_0_36, s_X6_reckon_0_37, s_X6_reckon_0_41, s_X6_reckon_0_43, s_X6_reckon_0_46, s_X6_reckon_0_48, s_X6_reckon_0_49, s_X6_reckon_0_52, s_X6_reckon_0_53, s_X6_reckon_0_54, s_X6_reckon_0_55, s_X6_reckon_0_57, s_X6_reckon_0_60, s_X6_reckon_0_63, s_X6_reckon_0_66, s_X6_reckon_0_69, s_X6_reckon_0_72, ↓i_lt_t, ↓i_lt_f, ↓i_le_t, ↓i_le_f, ↓i_eq_t, ↓i_eq_f, ↓i_m1a, ↓i_m1b, ↓i_m1c, ↓i_m1d, ↓i_m1e, ↓i_m1f, c_lt, c_le, c_eq, if_pos, if_neg, bnd_some, Option.toList, List.nil_append, List.cons_append, c_add, m1_lt, m1_eq1, m1_eq2, m1_le, ret_1, ret_0, if_true, if_false, eq_self_iff, q1]
    exact r1
theorem reckon_ok (sc : Nat × (Nat → Int32)) (I : Nat → Int32) (A : Nat → Nat → Int32) (Z : Int64) (s : Nat → Nat) (d : Nat) (hX : XH s d I A) (seen : Int32) (t : Nat) (ht : t < 12) :
    ∃ (A' : Nat → Nat → Int32) (P G : Nat → Nat), rs sc 42 0 [some (.ref 18), some (.ref 3), some (.int seen), some (.int (nI t)), none, none] [] [] (hp I A Z) = some (none, hp I A' Z) ∧ WX s seen t A A' P G 12 0 := by
  obtain ⟨g1, f1, f2⟩ := fill_19 sc I A Z (nI 1000000)
  obtain ⟨g2, f3, f4⟩ := fill_20 sc I (setA A 19 g1) Z (-1)
  obtain ⟨A', P', G', q1, q2⟩ := rc_loop sc I Z s d A hX seen t ht 12 0 (ua (setA (setA A 19 g1) 20 g2) 19 t (nI 0)) (un (fun _ => 1000000) t 0) (fun _ => 0) none (by omega) ⟨fun p a b => by rw [ua_set, sa_n a, sa_n b, sa_n a], fun j hj => by
    refine ⟨?_, by rw [ua_set, sa_n (by decide), sa_s]; exact (f4 j hj).trans gI_0.symm⟩
    rw [ua_set, sa_s, sa_n (by decide), sa_s]
    by_cases e : j = t
    · subst e; rw [pk_us, un_s]
    · rw [pk_un e, un_n e]; exact f2 j hj, un_s _ _ _, rfl, fun j hj hjt => by
    rw [un_n hjt, if_neg (by omega)]
    exact PS.start s (eb seen) t j 0⟩
  refine ⟨A', P', G', ?_, q2⟩
  simp (disch := omega) only [s_X6_reckon_0_0, s_X6_reckon_0_1, s_X6_reckon_0_4, s_X6_reckon_0_6, s_X6_reckon_0_9, s_X6_reckon_0_10, s_X6_reckon_0_13, s_X6_reckon_0_14, s_X6_reckon_0_17, s_X6_reckon_0_18, s_X6_reckon_0_21, s_X6_reckon_0_22, s_X6_reckon_0_23, s_X6_reckon_0_26, s_X6_reckon_0_27, ↓i_lt_t, ↓i_lt_f, ↓i_le_t, ↓i_le_f, ↓i_eq_t, ↓i_eq_f, ↓i_m1a, ↓i_m1b, ↓i_m1c, ↓i_m1d, ↓i_m1e, ↓i_m1f, c_lt, c_le, c_eq, if_pos, if_neg, bnd_some, Option.toList, List.nil_append, List.cons_append, c_add, m1_lt, m1_eq1, m1_eq2, m1_le, ret_1, ret_0, if_true, if_false, eq_self_iff, f1, f3, put_19]
  exact q1
end
