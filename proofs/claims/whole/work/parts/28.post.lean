/-! POST, on both sides -/
def pv (s : Nat → Nat) (d k : Nat) (seen : Int32) (i : Nat) : Nat := onN (seen ||| (sight s d k (fun _ => 0) (i / 4) (i % 4)).1) 12
def pst (s : Nat → Nat) (d k : Nat) (seen : Int32) : Nat → Nat × Nat
  | 0 => (48, 0)
  | i + 1 => if s (i / 4) = 0 ∧ ((pst s d k seen i).1 = 48 ∨ (pst s d k seen i).2 < pv s d k seen i) then (i, pv s d k seen i) else pst s d k seen i
theorem pst_ok (s : Nat → Nat) (d k : Nat) (seen : Int32) : ∀ i, i ≤ 48 → (pst s d k seen i).1 ≤ 48 ∧ (pst s d k seen i).2 ≤ 12 ∧ ((pst s d k seen i).1 = 48 → (pst s d k seen i).2 = 0)
  | 0, _ => ⟨Nat.le_refl _, Nat.zero_le _, fun _ => rfl⟩
  | i + 1, hi => by
    obtain ⟨h1, h2, h3⟩ := pst_ok s d k seen i (by omega)
    unfold pst
    split
    · exact ⟨by omega, onN_le _ 12, fun q => by omega⟩
    · exact ⟨h1, h2, h3⟩
theorem m1_le_m1 {α : Sort _} {x y : α} : (if (-1 : Int32) ≤ -1 then x else y) = x := if_pos (by decide)
theorem m1_le_n {α : Sort _} {x y : α} {a : Nat} (ha : a < 2147483648) : (if (-1 : Int32) ≤ nI a then x else y) = x := if_pos (by
  rw [Int32.le_iff_toInt_le, nI_toInt ha]
  have e : (-1 : Int32).toInt = -1 := by decide
  rw [e]; omega)
def bI (n : Nat) : Int32 := if n = 48 then -1 else nI n
theorem seenWith_ok (sc : Nat × (Nat → Int32)) (I : Nat → Int32) (A : Nat → Nat → Int32) (Z : Int64) (s : Nat → Nat) (d : Nat) (hX : XH s d I A) (k : Nat) (h9 : I 9 = nI k) (hk : k < 2) (seen : Int32) (hs : P12 seen) (i : Nat) (hi : i < 48) :
    ∃ I' : Nat → Int32, rs sc 75 0 [some (.ref 0), some (.int seen), some (.int (nI i)), none] [] [] (hp I A Z) = some (some (.int (if s (i / 4) = 0 then nI (pv s d k seen i) else -1)), hp I' A Z) ∧ Ag I' I := by
  have hw4 : i % 4 < 4 := Nat.mod_lt _ (by decide)
  have hc : i / 4 < 12 := by omega
  have ed : nI i / nI 4 = nI (i / 4) := pk_div (by omega) (by decide) (by decide)
  have em : i - i / 4 * 4 = i % 4 := by omega
  by_cases h0 : s (i / 4) = 0
  · obtain ⟨I', r1, r2, r3, r4, r5⟩ := follow_ok sc I A Z s d hX k hk (nI 0) (fun _ => 0) (fun c hc => ⟨tb0 c hc, by decide⟩) (i / 4) (i % 4) hc hw4
    refine ⟨I', ?_, r2⟩
    have hb : bcF (seen ||| I' 14) = nI (pv s d k seen i) := by rw [r3]; exact bc_N (hs.or (sight_P12 s d k _ _ _ hc))
    rw [if_pos h0]
    simp (disch := omega) only [s_X7_seenWithPost_0_0, s_X7_seenWithPost_0_1, s_X7_seenWithPost_0_2, s_X7_seenWithPost_0_3, s_X7_seenWithPost_0_4, s_X7_seenWithPost_0_5, s_X7_seenWithPost_0_8, s_X7_seenWithPost_0_9, s_X7_seenWithPost_0_12, s_X7_seenWithPost_0_15, s_X7_seenWithPost_0_16, s_X7_seenWithPost_0_17, s_X7_seenWithPost_0_18, s_X7_seenWithPost_0_21, s_X7_seenWithPost_0_22, s_X7_seenWithPost_0_25, s_X7_seenWithPost_0_26, s_X7_seenWithPost_0_29, s_X7_seenWithPost_0_32, s_X7_seenWithPost_0_33, s_X7_seenWithPost_0_34, s_X7_seenWithPost_0_35, s_X7_seenWithPost_0_36, s_X7_seenWithPost_0_37, s_X7_seenWithPost_0_40, s_X7_seenWithPost_0_41, s_X7_seenWithPost_0_42, s_X7_seenWithPost_0_45, s_X7_seenWithPost_0_48, s_X7_seenWithPost_0_49, s_X7_seenWithPost_0_52, ↓i_lt_t, ↓i_lt_f, ↓i_le_t, ↓i_le_f, ↓i_eq_t, ↓i_eq_f, ↓i_m1a, ↓i_m1b, ↓i_m1c, ↓i_m1d, ↓i_m1e, ↓i_m1f, c_lt, c_le, c_eq, if_pos, if_neg, bnd_some, Option.toList, List.nil_append, List.cons_append, c_add, m1_lt, m1_eq1, m1_eq2, m1_le, ret_1, ret_0, if_true, if_false, eq_self_iff, ed, c_mul, c_sub, em, isFloor_in sc I A Z s d hX, h0, h9, r1, bitCount_ok, hb]
  · refine ⟨I, ?_, Ag.rf I⟩
    rw [if_neg h0]
    simp (disch := omega) only [s_X7_seenWithPost_0_0, s_X7_seenWithPost_0_1, s_X7_seenWithPost_0_2, s_X7_seenWithPost_0_3, s_X7_seenWithPost_0_4, s_X7_seenWithPost_0_5, s_X7_seenWithPost_0_8, s_X7_seenWithPost_0_9, s_X7_seenWithPost_0_12, s_X7_seenWithPost_0_15, s_X7_seenWithPost_0_16, s_X7_seenWithPost_0_17, s_X7_seenWithPost_0_18, s_X7_seenWithPost_0_21, s_X7_seenWithPost_0_22, s_X7_seenWithPost_0_25, s_X7_seenWithPost_0_26, s_X7_seenWithPost_0_29, s_X7_seenWithPost_0_32, s_X7_seenWithPost_0_33, s_X7_seenWithPost_0_34, s_X7_seenWithPost_0_35, s_X7_seenWithPost_0_36, s_X7_seenWithPost_0_37, s_X7_seenWithPost_0_40, s_X7_seenWithPost_0_41, s_X7_seenWithPost_0_42, s_X7_seenWithPost_0_45, s_X7_seenWithPost_0_48, s_X7_seenWithPost_0_49, s_X7_seenWithPost_0_52, ↓i_lt_t, ↓i_lt_f, ↓i_le_t, ↓i_le_f, ↓i_eq_t, ↓i_eq_f, ↓i_m1a, ↓i_m1b, ↓i_m1c, ↓i_m1d, ↓i_m1e, ↓i_m1f, c_lt, c_le, c_eq, if_pos, if_neg, bnd_some, Option.toList, List.nil_append, List.cons_append, c_add, m1_lt, m1_eq1, m1_eq2, m1_le, ret_1, ret_0, if_true, if_false, eq_self_iff, ed, isFloor_in sc I A Z s d hX]
theorem post_loop (sc : Nat × (Nat → Int32)) (A : Nat → Nat → Int32) (Z : Int64) (s : Nat → Nat) (d : Nat) (I0 : Nat → Int32) (hX : XH s d I0 A) (k : Nat) (h9 : I0 9 = nI k) (hk : k < 2) (seen : Int32) (hs : P12 seen) (what : Int32) :
    ∀ (f i : Nat) (I : Nat → Int32) (l6 : Option Value), i + f = 48 → Ag I I0 →
      ∃ I' : Nat → Int32, rs sc 63 39 [some (.ref 0), some (.int what), some (.int seen), some (.int (bI (pst s d k seen i).1)), some (.int (if (pst s d k seen i).1 = 48 then -1 else nI (pst s d k seen i).2)), some (.int (nI i)), l6] [] [] (hp I A Z) = some (some (.int (if what = nI 0 then bI (pst s d k seen 48).1 else nI (pst s d k seen 48).2)), hp I' A Z) ∧ Ag I' I0 := by
  intro f
  induction f with
  | zero =>
    intro i I l6 hi hag
    have e : i = 48 := by omega
    subst e
    obtain ⟨g1, g2, g3⟩ := pst_ok s d k seen 48 (Nat.le_refl _)
    refine ⟨I, ?_, hag⟩
    by_cases hw : what = nI 0
    · simp (disch := omega) only [s_X7_post_0_0, s_X7_post_0_1, s_X7_post_0_4, s_X7_post_0_5, s_X7_post_0_6, s_X7_post_0_9, s_X7_post_0_11, s_X7_post_0_12, s_X7_post_0_13, s_X7_post_0_16, s_X7_post_0_19, s_X7_post_0_22, s_X7_post_0_24, s_X7_post_0_25, s_X7_post_0_26, s_X7_post_0_27, s_X7_post_0_30, s_X7_post_0_31, s_X7_post_0_32, s_X7_post_0_33, s_X7_post_0_34, s_X7_post_0_36, s_X7_post_0_37, s_X7_post_0_39, s_X7_post_0_41, s_X7_post_0_43, s_X7_post_0_46, s_X7_post_0_47, s_X7_post_0_48, s_X7_post_0_50, s_X7_post_0_53, s_X7_post_0_55, s_X7_post_0_57, s_X7_post_0_59, s_X7_post_0_62, s_X7_post_0_64, s_X7_post_0_66, s_X7_post_0_68, s_X7_post_0_69, s_X7_post_0_72, s_X7_post_0_75, s_X7_post_0_76, s_X7_post_0_79, s_X7_post_0_80, s_X7_post_0_83, s_X7_post_0_85, s_X7_post_0_86, s_X7_post_0_89, ↓i_lt_t, ↓i_lt_f, ↓i_le_t, ↓i_le_f, ↓i_eq_t, ↓i_eq_f, ↓i_m1a, ↓i_m1b, ↓i_m1c, ↓i_m1d, ↓i_m1e, ↓i_m1f, c_lt, c_le, c_eq, if_pos, if_neg, bnd_some, Option.toList, List.nil_append, List.cons_append, c_add, m1_lt, m1_eq1, m1_eq2, m1_le, ret_1, ret_0, if_true, if_false, eq_self_iff, ↓if_pos hw]
    · rw [s_X7_post_0_39]
      by_cases hb : (pst s d k seen 48).1 = 48
      · rw [if_pos hb, g3 hb]
        simp (disch := omega) only [s_X7_post_0_0, s_X7_post_0_1, s_X7_post_0_4, s_X7_post_0_5, s_X7_post_0_6, s_X7_post_0_9, s_X7_post_0_11, s_X7_post_0_12, s_X7_post_0_13, s_X7_post_0_16, s_X7_post_0_19, s_X7_post_0_22, s_X7_post_0_24, s_X7_post_0_25, s_X7_post_0_26, s_X7_post_0_27, s_X7_post_0_30, s_X7_post_0_31, s_X7_post_0_32, s_X7_post_0_33, s_X7_post_0_34, s_X7_post_0_36, s_X7_post_0_37, s_X7_post_0_41, s_X7_post_0_43, s_X7_post_0_46, s_X7_post_0_47, s_X7_post_0_48, s_X7_post_0_50, s_X7_post_0_53, s_X7_post_0_55, s_X7_post_0_57, s_X7_post_0_59, s_X7_post_0_62, s_X7_post_0_64, s_X7_post_0_66, s_X7_post_0_68, s_X7_post_0_69, s_X7_post_0_72, s_X7_post_0_75, s_X7_post_0_76, s_X7_post_0_79, s_X7_post_0_80, s_X7_post_0_83, s_X7_post_0_85, s_X7_post_0_86, s_X7_post_0_89, ↓i_lt_t, ↓i_lt_f, ↓i_le_t, ↓i_le_f, ↓i_eq_t, ↓i_eq_f, ↓i_m1a, ↓i_m1b, ↓i_m1c, ↓i_m1d, ↓i_m1e, ↓i_m1f, c_lt, c_le, c_eq, if_pos, if_neg, bnd_some, Option.toList, List.nil_append, List.cons_append, c_add, m1_lt, m1_eq1, m1_eq2, m1_le, ret_1, ret_0, if_true, if_false, eq_self_iff, ↓if_neg hw]
      · rw [if_neg hb]
        simp (disch := omega) only [s_X7_post_0_0, s_X7_post_0_1, s_X7_post_0_4, s_X7_post_0_5, s_X7_post_0_6, s_X7_post_0_9, s_X7_post_0_11, s_X7_post_0_12, s_X7_post_0_13, s_X7_post_0_16, s_X7_post_0_19, s_X7_post_0_22, s_X7_post_0_24, s_X7_post_0_25, s_X7_post_0_26, s_X7_post_0_27, s_X7_post_0_30, s_X7_post_0_31, s_X7_post_0_32, s_X7_post_0_33, s_X7_post_0_34, s_X7_post_0_36, s_X7_post_0_37, s_X7_post_0_41, s_X7_post_0_43, s_X7_post_0_46, s_X7_post_0_47, s_X7_post_0_48, s_X7_post_0_50, s_X7_post_0_53, s_X7_post_0_55, s_X7_post_0_57, s_X7_post_0_59, s_X7_post_0_62, s_X7_post_0_64, s_X7_post_0_66, s_X7_post_0_68, s_X7_post_0_69, s_X7_post_0_72, s_X7_post_0_75, s_X7_post_0_76, s_X7_post_0_79, s_X7_post_0_80, s_X7_post_0_83, s_X7_post_0_85, s_X7_post_0_86, s_X7_post_0_89, ↓i_lt_t, ↓i_lt_f, ↓i_le_t, ↓i_le_f, ↓i_eq_t, ↓i_eq_f, ↓i_m1a, ↓i_m1b, ↓i_m1c, ↓i_m1d, ↓i_m1e, ↓i_m1f, c_lt, c_le, c_eq, if_pos, if_neg, bnd_some, Option.toList, List.nil_append, List.cons_append, c_add, m1_lt, m1_eq1, m1_eq2, m1_le, ret_1, ret_0, if_true, if_false, eq_self_iff, ↓if_neg hw]
  | succ f ih =>
    intro i I l6 hi hag
    obtain ⟨g1, g2, g3⟩ := pst_ok s d k seen i (by omega)
    obtain ⟨I1, r1, r2⟩ := seenWith_ok sc I A Z s d (hX.ag hag) k (by rw [hag 9 (by decide) (by decide) (by decide)]; exact h9) hk seen hs i (by omega)
    have hpv : pv s d k seen i ≤ 12 := onN_le _ 12
    by_cases h0 : s (i / 4) = 0
    · rw [if_pos h0] at r1
      by_cases hb : (pst s d k seen i).1 = 48 ∨ (pst s d k seen i).2 < pv s d k seen i
      · have e : pst s d k seen (i + 1) = (i, pv s d k seen i) := by rw [pst, if_pos ⟨h0, hb⟩]
        obtain ⟨I', q1, q2⟩ := ih (i + 1) I1 (some (.int (nI (pv s d k seen i)))) (by omega) (r2.tr hag)
        rw [e] at q1
        dsimp only at q1
        rw [show bI i = nI i from if_neg (by omega), if_neg (show ¬ i = 48 by omega)] at q1
        refine ⟨I', ?_, q2⟩
        rw [s_X7_post_0_39]
        by_cases hb8 : (pst s d k seen i).1 = 48
        · rw [if_pos hb8]
          simp (disch := omega) only [s_X7_post_0_0, s_X7_post_0_1, s_X7_post_0_4, s_X7_post_0_5, s_X7_post_0_6, s_X7_post_0_9, s_X7_post_0_11, s_X7_post_0_12, s_X7_post_0_13, s_X7_post_0_16, s_X7_post_0_19, s_X7_post_0_22, s_X7_post_0_24, s_X7_post_0_25, s_X7_post_0_26, s_X7_post_0_27, s_X7_post_0_30, s_X7_post_0_31, s_X7_post_0_32, s_X7_post_0_33, s_X7_post_0_34, s_X7_post_0_36, s_X7_post_0_37, s_X7_post_0_41, s_X7_post_0_43, s_X7_post_0_46, s_X7_post_0_47, s_X7_post_0_48, s_X7_post_0_50, s_X7_post_0_53, s_X7_post_0_55, s_X7_post_0_57, s_X7_post_0_59, s_X7_post_0_62, s_X7_post_0_64, s_X7_post_0_66, s_X7_post_0_68, s_X7_post_0_69, s_X7_post_0_72, s_X7_post_0_75, s_X7_post_0_76, s_X7_post_0_79, s_X7_post_0_80, s_X7_post_0_83, s_X7_post_0_85, s_X7_post_0_86, s_X7_post_0_89, ↓i_lt_t, ↓i_lt_f, ↓i_le_t, ↓i_le_f, ↓i_eq_t, ↓i_eq_f, ↓i_m1a, ↓i_m1b, ↓i_m1c, ↓i_m1d, ↓i_m1e, ↓i_m1f, c_lt, c_le, c_eq, if_pos, if_neg, bnd_some, Option.toList, List.nil_append, List.cons_append, c_add, m1_lt, m1_eq1, m1_eq2, m1_le, ret_1, ret_0, if_true, if_false, eq_self_iff, r1]
          exact q1
        · rw [if_neg hb8]
          simp (disch := omega) only [s_X7_post_0_0, s_X7_post_0_1, s_X7_post_0_4, s_X7_post_0_5, s_X7_post_0_6, s_X7_post_0_9, s_X7_post_0_11, s_X7_post_0_12, s_X7_post_0_13, s_X7_post_0_16, s_X7_post_0_19, s_X7_post_0_22, s_X7_post_0_24, s_X7_post_0_25, s_X7_post_0_26, s_X7_post_0_27, s_X7_post_0_30, s_X7_post_0_31, s_X7_post_0_32, s_X7_post_0_33, s_X7_post_0_34, s_X7_post_0_36, s_X7_post_0_37, s_X7_post_0_41, s_X7_post_0_43, s_X7_post_0_46, s_X7_post_0_47, s_X7_post_0_48, s_X7_post_0_50, s_X7_post_0_53, s_X7_post_0_55, s_X7_post_0_57, s_X7_post_0_59, s_X7_post_0_62, s_X7_post_0_64, s_X7_post_0_66, s_X7_post_0_68, s_X7_post_0_69, s_X7_post_0_72, s_X7_post_0_75, s_X7_post_0_76, s_X7_post_0_79, s_X7_post_0_80, s_X7_post_0_83, s_X7_post_0_85, s_X7_post_0_86, s_X7_post_0_89, ↓i_lt_t, ↓i_lt_f, ↓i_le_t, ↓i_le_f, ↓i_eq_t, ↓i_eq_f, ↓i_m1a, ↓i_m1b, ↓i_m1c, ↓i_m1d, ↓i_m1e, ↓i_m1f, c_lt, c_le, c_eq, if_pos, if_neg, bnd_some, Option.toList, List.nil_append, List.cons_append, c_add, m1_lt, m1_eq1, m1_eq2, m1_le, ret_1, ret_0, if_true, if_false, eq_self_iff, r1]
          exact q1
      · have e : pst s d k seen (i + 1) = pst s d k seen i := by rw [pst, if_neg (fun q => hb q.2)]
        obtain ⟨I', q1, q2⟩ := ih (i + 1) I1 (some (.int (nI (pv s d k seen i)))) (by omega) (r2.tr hag)
        rw [e] at q1
        refine ⟨I', ?_, q2⟩
        rw [s_X7_post_0_39]
        rw [if_neg (fun q => hb (Or.inl q))] at q1 ⊢
        simp (disch := omega) only [s_X7_post_0_0, s_X7_post_0_1, s_X7_post_0_4, s_X7_post_0_5, s_X7_post_0_6, s_X7_post_0_9, s_X7_post_0_11, s_X7_post_0_12, s_X7_post_0_13, s_X7_post_0_16, s_X7_post_0_19, s_X7_post_0_22, s_X7_post_0_24, s_X7_post_0_25, s_X7_post_0_26, s_X7_post_0_27, s_X7_post_0_30, s_X7_post_0_31, s_X7_post_0_32, s_X7_post_0_33, s_X7_post_0_34, s_X7_post_0_36, s_X7_post_0_37, s_X7_post_0_41, s_X7_post_0_43, s_X7_post_0_46, s_X7_post_0_47, s_X7_post_0_48, s_X7_post_0_50, s_X7_post_0_53, s_X7_post_0_55, s_X7_post_0_57, s_X7_post_0_59, s_X7_post_0_62, s_X7_post_0_64, s_X7_post_0_66, s_X7_post_0_68, s_X7_post_0_69, s_X7_post_0_72, s_X7_post_0_75, s_X7_post_0_76, s_X7_post_0_79, s_X7_post_0_80, s_X7_post_0_83, s_X7_post_0_85, s_X7_post_0_86, s_X7_post_0_89, ↓i_lt_t, ↓i_lt_f, ↓i_le_t, ↓i_le_f, ↓i_eq_t, ↓i_eq_f, ↓i_m1a, ↓i_m1b, ↓i_m1c, ↓i_m1d, ↓i_m1e, ↓i_m1f, c_lt, c_le, c_eq, if_pos, if_neg, bnd_some, Option.toList, List.nil_append, List.cons_append, c_add, m1_lt, m1_eq1, m1_eq2, m1_le, ret_1, ret_0, if_true, if_false, eq_self_iff, r1]
        exact q1
    · rw [if_neg h0] at r1
      have e : pst s d k seen (i + 1) = pst s d k seen i := by rw [pst, if_neg (fun q => h0 q.1)]
      obtain ⟨I', q1, q2⟩ := ih (i + 1) I1 (some (.int (-1))) (by omega) (r2.tr hag)
      rw [e] at q1
      refine ⟨I', ?_, q2⟩
      rw [s_X7_post_0_39]
      by_cases hb8 : (pst s d k seen i).1 = 48
      · rw [if_pos hb8] at q1 ⊢
        simp (disch := omega) only [s_X7_post_0_0, s_X7_post_0_1, s_X7_post_0_4, s_X7_post_0_5, s_X7_post_0_6, s_X7_post_0_9, s_X7_post_0_11, s_X7_post_0_12, s_X7_post_0_13, s_X7_post_0_16, s_X7_post_0_19, s_X7_post_0_22, s_X7_post_0_24, s_X7_post_0_25, s_X7_post_0_26, s_X7_post_0_27, s_X7_post_0_30, s_X7_post_0_31, s_X7_post_0_32, s_X7_post_0_33, s_X7_post_0_34, s_X7_post_0_36, s_X7_post_0_37, s_X7_post_0_41, s_X7_post_0_43, s_X7_post_0_46, s_X7_post_0_47, s_X7_post_0_48, s_X7_post_0_50, s_X7_post_0_53, s_X7_post_0_55, s_X7_post_0_57, s_X7_post_0_59, s_X7_post_0_62, s_X7_post_0_64, s_X7_post_0_66, s_X7_post_0_68, s_X7_post_0_69, s_X7_post_0_72, s_X7_post_0_75, s_X7_post_0_76, s_X7_post_0_79, s_X7_post_0_80, s_X7_post_0_83, s_X7_post_0_85, s_X7_post_0_86, s_X7_post_0_89, ↓i_lt_t, ↓i_lt_f, ↓i_le_t, ↓i_le_f, ↓i_eq_t, ↓i_eq_f, ↓i_m1a, ↓i_m1b, ↓i_m1c, ↓i_m1d, ↓i_m1e, ↓i_m1f, c_lt, c_le, c_eq, if_pos, if_neg, bnd_some, Option.toList, List.nil_append, List.cons_append, c_add, m1_lt, m1_eq1, m1_eq2, m1_le, ret_1, ret_0, if_true, if_false, eq_self_iff, r1, ↓m1_le_m1]
        exact q1
      · rw [if_neg hb8] at q1 ⊢
        simp (disch := omega) only [s_X7_post_0_0, s_X7_post_0_1, s_X7_post_0_4, s_X7_post_0_5, s_X7_post_0_6, s_X7_post_0_9, s_X7_post_0_11, s_X7_post_0_12, s_X7_post_0_13, s_X7_post_0_16, s_X7_post_0_19, s_X7_post_0_22, s_X7_post_0_24, s_X7_post_0_25, s_X7_post_0_26, s_X7_post_0_27, s_X7_post_0_30, s_X7_post_0_31, s_X7_post_0_32, s_X7_post_0_33, s_X7_post_0_34, s_X7_post_0_36, s_X7_post_0_37, s_X7_post_0_41, s_X7_post_0_43, s_X7_post_0_46, s_X7_post_0_47, s_X7_post_0_48, s_X7_post_0_50, s_X7_post_0_53, s_X7_post_0_55, s_X7_post_0_57, s_X7_post_0_59, s_X7_post_0_62, s_X7_post_0_64, s_X7_post_0_66, s_X7_post_0_68, s_X7_post_0_69, s_X7_post_0_72, s_X7_post_0_75, s_X7_post_0_76, s_X7_post_0_79, s_X7_post_0_80, s_X7_post_0_83, s_X7_post_0_85, s_X7_post_0_86, s_X7_post_0_89, ↓i_lt_t, ↓i_lt_f, ↓i_le_t, ↓i_le_f, ↓i_eq_t, ↓i_eq_f, ↓i_m1a, ↓i_m1b, ↓i_m1c, ↓i_m1d, ↓i_m1e, ↓i_m1f, c_lt, c_le, c_eq, if_pos, if_neg, bnd_some, Option.toList, List.nil_append, List.cons_append, c_add, m1_lt, m1_eq1, m1_eq2, m1_le, ret_1, ret_0, if_true, if_false, eq_self_iff, r1, ↓m1_le_n]
        exact q1
theorem mPost_loop (sc : Nat × (Nat → Int32)) (A : Nat → Nat → Int32) (Z : Int64) (s : Nat → Nat) (d k : Nat) (I0 : Nat → Int32) (hX : MH s d k I0 A) (seen : Int32) (what : Int32) :
    ∀ (f i : Nat) (I : Nat → Int32) (l6 l7 : Option Value), i + f = 48 → AgM I I0 →
      ∃ I' : Nat → Int32, rs sc 119 13 [some (.ref 26), some (.int what), some (.int seen), some (.int (bI (pst s d k seen i).1)), some (.int (nI (pst s d k seen i).2)), some (.int (nI i)), l6, l7] [] [] (hp I A Z) = some (some (.int (if what = nI 0 then bI (pst s d k seen 48).1 else nI (pst s d k seen 48).2)), hp I' A Z) ∧ AgM I' I0 := by
  intro f
  induction f with
  | zero =>
    intro i I l6 l7 hi hag
    have e : i = 48 := by omega
    subst e
    refine ⟨I, ?_, hag⟩
    rw [s_X8_postOf_0_13]
    by_cases hw : what = nI 0
    · simp (disch := omega) only [s_X8_postOf_0_0, s_X8_postOf_0_1, s_X8_postOf_0_4, s_X8_postOf_0_5, s_X8_postOf_0_6, s_X8_postOf_0_7, s_X8_postOf_0_8, s_X8_postOf_0_10, s_X8_postOf_0_11, s_X8_postOf_0_15, s_X8_postOf_0_17, s_X8_postOf_0_20, s_X8_postOf_0_21, s_X8_postOf_0_24, s_X8_postOf_0_26, s_X8_postOf_0_27, s_X8_postOf_0_28, s_X8_postOf_0_29, s_X8_postOf_0_32, s_X8_postOf_0_33, s_X8_postOf_0_35, s_X8_postOf_0_36, s_X8_postOf_0_37, s_X8_postOf_0_39, s_X8_postOf_0_40, s_X8_postOf_0_41, s_X8_postOf_0_44, s_X8_postOf_0_45, s_X8_postOf_0_46, s_X8_postOf_0_49, s_X8_postOf_0_50, s_X8_postOf_0_53, s_X8_postOf_0_55, s_X8_postOf_0_56, s_X8_postOf_0_57, s_X8_postOf_0_60, s_X8_postOf_0_62, s_X8_postOf_0_64, s_X8_postOf_0_67, s_X8_postOf_0_68, s_X8_postOf_0_71, s_X8_postOf_0_72, s_X8_postOf_0_74, s_X8_postOf_0_76, s_X8_postOf_0_79, s_X8_postOf_0_81, s_X8_postOf_0_84, s_X8_postOf_0_85, s_X8_postOf_0_86, s_X8_postOf_0_88, s_X8_postOf_0_91, s_X8_postOf_0_93, s_X8_postOf_0_96, s_X8_postOf_0_98, s_X8_postOf_0_100, s_X8_postOf_0_103, s_X8_postOf_0_106, s_X8_postOf_0_107, s_X8_postOf_0_110, s_X8_postOf_0_111, s_X8_postOf_0_114, s_X8_postOf_0_116, ↓i_lt_t, ↓i_lt_f, ↓i_le_t, ↓i_le_f, ↓i_eq_t, ↓i_eq_f, ↓i_m1a, ↓i_m1b, ↓i_m1c, ↓i_m1d, ↓i_m1e, ↓i_m1f, c_lt, c_le, c_eq, if_pos, if_neg, bnd_some, Option.toList, List.nil_append, List.cons_append, c_add, m1_lt, m1_eq1, m1_eq2, m1_le, ret_1, ret_0, if_true, if_false, eq_self_iff, ↓if_pos hw]
    · simp (disch := omega) only [s_X8_postOf_0_0, s_X8_postOf_0_1, s_X8_postOf_0_4, s_X8_postOf_0_5, s_X8_postOf_0_6, s_X8_postOf_0_7, s_X8_postOf_0_8, s_X8_postOf_0_10, s_X8_postOf_0_11, s_X8_postOf_0_15, s_X8_postOf_0_17, s_X8_postOf_0_20, s_X8_postOf_0_21, s_X8_postOf_0_24, s_X8_postOf_0_26, s_X8_postOf_0_27, s_X8_postOf_0_28, s_X8_postOf_0_29, s_X8_postOf_0_32, s_X8_postOf_0_33, s_X8_postOf_0_35, s_X8_postOf_0_36, s_X8_postOf_0_37, s_X8_postOf_0_39, s_X8_postOf_0_40, s_X8_postOf_0_41, s_X8_postOf_0_44, s_X8_postOf_0_45, s_X8_postOf_0_46, s_X8_postOf_0_49, s_X8_postOf_0_50, s_X8_postOf_0_53, s_X8_postOf_0_55, s_X8_postOf_0_56, s_X8_postOf_0_57, s_X8_postOf_0_60, s_X8_postOf_0_62, s_X8_postOf_0_64, s_X8_postOf_0_67, s_X8_postOf_0_68, s_X8_postOf_0_71, s_X8_postOf_0_72, s_X8_postOf_0_74, s_X8_postOf_0_76, s_X8_postOf_0_79, s_X8_postOf_0_81, s_X8_postOf_0_84, s_X8_postOf_0_85, s_X8_postOf_0_86, s_X8_postOf_0_88, s_X8_postOf_0_91, s_X8_postOf_0_93, s_X8_postOf_0_96, s_X8_postOf_0_98, s_X8_postOf_0_100, s_X8_postOf_0_103, s_X8_postOf_0_106, s_X8_postOf_0_107, s_X8_postOf_0_110, s_X8_postOf_0_111, s_X8_postOf_0_114, s_X8_postOf_0_116, ↓i_lt_t, ↓i_lt_f, ↓i_le_t, ↓i_le_f, ↓i_eq_t, ↓i_eq_f, ↓i_m1a, ↓i_m1b, ↓i_m1c, ↓i_m1d, ↓i_m1e, ↓i_m1f, c_lt, c_le, c_eq, if_pos, if_neg, bnd_some, Option.toList, List.nil_append, List.cons_append, c_add, m1_lt, m1_eq1, m1_eq2, m1_le, ret_1, ret_0, if_true, if_false, eq_self_iff, ↓if_neg hw]
  | succ f ih =>
    intro i I l6 l7 hi hag
    have hw4 : i % 4 < 4 := Nat.mod_lt _ (by decide)
    have hc : i / 4 < 12 := by omega
    have ed : nI i / nI 4 = nI (i / 4) := pk_div (by omega) (by decide) (by decide)
    have em : i - i / 4 * 4 = i % 4 := by omega
    obtain ⟨g1, g2, g3⟩ := pst_ok s d k seen i (by omega)
    have hpv : pv s d k seen i ≤ 12 := onN_le _ 12
    obtain ⟨gs1, gs2⟩ := (hX.ag hag).2.2.2.2.2 (i / 4) hc
    by_cases h0 : s (i / 4) = 0
    · obtain ⟨I1, r1, r2, r3, r4, r5⟩ := lay_ok sc I A Z s d k (hX.ag hag) (i / 4) (i % 4) hc hw4
      have ho : ∀ (A : Nat → Nat → Int32), rs sc 118 0 [some (.int (seen ||| (sight s d k (fun _ => 0) (i / 4) (i % 4)).1)), none, none] [] [] (hp I1 A Z) = some (some (.int (nI (pv s d k seen i))), hp I1 A Z) := fun A => ones_ok sc I1 A Z _
      by_cases hb8 : (pst s d k seen i).1 = 48
      · have e : pst s d k seen (i + 1) = (i, pv s d k seen i) := by rw [pst, if_pos ⟨h0, Or.inl hb8⟩]
        obtain ⟨I', q1, q2⟩ := ih (i + 1) I1 (some (.int (nI (pv s d k seen i)))) (some (.int (nI 1))) (by omega) (r2.tr hag)
        rw [e] at q1
        dsimp only at q1
        rw [show bI i = nI i from if_neg (by omega)] at q1
        refine ⟨I', ?_, q2⟩
        rw [s_X8_postOf_0_13, show bI (pst s d k seen i).1 = -1 from if_pos hb8]
        simp (disch := omega) only [s_X8_postOf_0_0, s_X8_postOf_0_1, s_X8_postOf_0_4, s_X8_postOf_0_5, s_X8_postOf_0_6, s_X8_postOf_0_7, s_X8_postOf_0_8, s_X8_postOf_0_10, s_X8_postOf_0_11, s_X8_postOf_0_15, s_X8_postOf_0_17, s_X8_postOf_0_20, s_X8_postOf_0_21, s_X8_postOf_0_24, s_X8_postOf_0_26, s_X8_postOf_0_27, s_X8_postOf_0_28, s_X8_postOf_0_29, s_X8_postOf_0_32, s_X8_postOf_0_33, s_X8_postOf_0_35, s_X8_postOf_0_36, s_X8_postOf_0_37, s_X8_postOf_0_39, s_X8_postOf_0_40, s_X8_postOf_0_41, s_X8_postOf_0_44, s_X8_postOf_0_45, s_X8_postOf_0_46, s_X8_postOf_0_49, s_X8_postOf_0_50, s_X8_postOf_0_53, s_X8_postOf_0_55, s_X8_postOf_0_56, s_X8_postOf_0_57, s_X8_postOf_0_60, s_X8_postOf_0_62, s_X8_postOf_0_64, s_X8_postOf_0_67, s_X8_postOf_0_68, s_X8_postOf_0_71, s_X8_postOf_0_72, s_X8_postOf_0_74, s_X8_postOf_0_76, s_X8_postOf_0_79, s_X8_postOf_0_81, s_X8_postOf_0_84, s_X8_postOf_0_85, s_X8_postOf_0_86, s_X8_postOf_0_88, s_X8_postOf_0_91, s_X8_postOf_0_93, s_X8_postOf_0_96, s_X8_postOf_0_98, s_X8_postOf_0_100, s_X8_postOf_0_103, s_X8_postOf_0_106, s_X8_postOf_0_107, s_X8_postOf_0_110, s_X8_postOf_0_111, s_X8_postOf_0_114, s_X8_postOf_0_116, ↓i_lt_t, ↓i_lt_f, ↓i_le_t, ↓i_le_f, ↓i_eq_t, ↓i_eq_f, ↓i_m1a, ↓i_m1b, ↓i_m1c, ↓i_m1d, ↓i_m1e, ↓i_m1f, c_lt, c_le, c_eq, if_pos, if_neg, bnd_some, Option.toList, List.nil_append, List.cons_append, c_add, m1_lt, m1_eq1, m1_eq2, m1_le, ret_1, ret_0, if_true, if_false, eq_self_iff, ed, gs1, h0, c_mul, c_sub, em, r1, r3, ho]
        exact q1
      · have eb : bI (pst s d k seen i).1 = nI (pst s d k seen i).1 := if_neg hb8
        by_cases hb : (pst s d k seen i).2 < pv s d k seen i
        · have e : pst s d k seen (i + 1) = (i, pv s d k seen i) := by rw [pst, if_pos ⟨h0, Or.inr hb⟩]
          obtain ⟨I', q1, q2⟩ := ih (i + 1) I1 (some (.int (nI (pv s d k seen i)))) (some (.int (nI 1))) (by omega) (r2.tr hag)
          rw [e] at q1
          dsimp only at q1
          rw [show bI i = nI i from if_neg (by omega)] at q1
          refine ⟨I', ?_, q2⟩
          rw [s_X8_postOf_0_13, eb]
          simp (disch := omega) only [s_X8_postOf_0_0, s_X8_postOf_0_1, s_X8_postOf_0_4, s_X8_postOf_0_5, s_X8_postOf_0_6, s_X8_postOf_0_7, s_X8_postOf_0_8, s_X8_postOf_0_10, s_X8_postOf_0_11, s_X8_postOf_0_15, s_X8_postOf_0_17, s_X8_postOf_0_20, s_X8_postOf_0_21, s_X8_postOf_0_24, s_X8_postOf_0_26, s_X8_postOf_0_27, s_X8_postOf_0_28, s_X8_postOf_0_29, s_X8_postOf_0_32, s_X8_postOf_0_33, s_X8_postOf_0_35, s_X8_postOf_0_36, s_X8_postOf_0_37, s_X8_postOf_0_39, s_X8_postOf_0_40, s_X8_postOf_0_41, s_X8_postOf_0_44, s_X8_postOf_0_45, s_X8_postOf_0_46, s_X8_postOf_0_49, s_X8_postOf_0_50, s_X8_postOf_0_53, s_X8_postOf_0_55, s_X8_postOf_0_56, s_X8_postOf_0_57, s_X8_postOf_0_60, s_X8_postOf_0_62, s_X8_postOf_0_64, s_X8_postOf_0_67, s_X8_postOf_0_68, s_X8_postOf_0_71, s_X8_postOf_0_72, s_X8_postOf_0_74, s_X8_postOf_0_76, s_X8_postOf_0_79, s_X8_postOf_0_81, s_X8_postOf_0_84, s_X8_postOf_0_85, s_X8_postOf_0_86, s_X8_postOf_0_88, s_X8_postOf_0_91, s_X8_postOf_0_93, s_X8_postOf_0_96, s_X8_postOf_0_98, s_X8_postOf_0_100, s_X8_postOf_0_103, s_X8_postOf_0_106, s_X8_postOf_0_107, s_X8_postOf_0_110, s_X8_postOf_0_111, s_X8_postOf_0_114, s_X8_postOf_0_116, ↓i_lt_t, ↓i_lt_f, ↓i_le_t, ↓i_le_f, ↓i_eq_t, ↓i_eq_f, ↓i_m1a, ↓i_m1b, ↓i_m1c, ↓i_m1d, ↓i_m1e, ↓i_m1f, c_lt, c_le, c_eq, if_pos, if_neg, bnd_some, Option.toList, List.nil_append, List.cons_append, c_add, m1_lt, m1_eq1, m1_eq2, m1_le, ret_1, ret_0, if_true, if_false, eq_self_iff, ed, gs1, h0, c_mul, c_sub, em, r1, r3, ho]
          exact q1
        · have e : pst s d k seen (i + 1) = pst s d k seen i := by rw [pst, if_neg (fun q => by rcases q.2 with q | q; exact hb8 q; exact hb q)]
          obtain ⟨I', q1, q2⟩ := ih (i + 1) I1 (some (.int (nI (pv s d k seen i)))) (some (.int (nI 0))) (by omega) (r2.tr hag)
          rw [e, eb] at q1
          refine ⟨I', ?_, q2⟩
          rw [s_X8_postOf_0_13, eb]
          simp (disch := omega) only [s_X8_postOf_0_0, s_X8_postOf_0_1, s_X8_postOf_0_4, s_X8_postOf_0_5, s_X8_postOf_0_6, s_X8_postOf_0_7, s_X8_postOf_0_8, s_X8_postOf_0_10, s_X8_postOf_0_11, s_X8_postOf_0_15, s_X8_postOf_0_17, s_X8_postOf_0_20, s_X8_postOf_0_21, s_X8_postOf_0_24, s_X8_postOf_0_26, s_X8_postOf_0_27, s_X8_postOf_0_28, s_X8_postOf_0_29, s_X8_postOf_0_32, s_X8_postOf_0_33, s_X8_postOf_0_35, s_X8_postOf_0_36, s_X8_postOf_0_37, s_X8_postOf_0_39, s_X8_postOf_0_40, s_X8_postOf_0_41, s_X8_postOf_0_44, s_X8_postOf_0_45, s_X8_postOf_0_46, s_X8_postOf_0_49, s_X8_postOf_0_50, s_X8_postOf_0_53, s_X8_postOf_0_55, s_X8_postOf_0_56, s_X8_postOf_0_57, s_X8_postOf_0_60, s_X8_postOf_0_62, s_X8_postOf_0_64, s_X8_postOf_0_67, s_X8_postOf_0_68, s_X8_postOf_0_71, s_X8_postOf_0_72, s_X8_postOf_0_74, s_X8_postOf_0_76, s_X8_postOf_0_79, s_X8_postOf_0_81, s_X8_postOf_0_84, s_X8_postOf_0_85, s_X8_postOf_0_86, s_X8_postOf_0_88, s_X8_postOf_0_91, s_X8_postOf_0_93, s_X8_postOf_0_96, s_X8_postOf_0_98, s_X8_postOf_0_100, s_X8_postOf_0_103, s_X8_postOf_0_106, s_X8_postOf_0_107, s_X8_postOf_0_110, s_X8_postOf_0_111, s_X8_postOf_0_114, s_X8_postOf_0_116, ↓i_lt_t, ↓i_lt_f, ↓i_le_t, ↓i_le_f, ↓i_eq_t, ↓i_eq_f, ↓i_m1a, ↓i_m1b, ↓i_m1c, ↓i_m1d, ↓i_m1e, ↓i_m1f, c_lt, c_le, c_eq, if_pos, if_neg, bnd_some, Option.toList, List.nil_append, List.cons_append, c_add, m1_lt, m1_eq1, m1_eq2, m1_le, ret_1, ret_0, if_true, if_false, eq_self_iff, ed, gs1, h0, c_mul, c_sub, em, r1, r3, ho]
          exact q1
    · have e : pst s d k seen (i + 1) = pst s d k seen i := by rw [pst, if_neg (fun q => h0 q.1)]
      obtain ⟨I', q1, q2⟩ := ih (i + 1) I l6 l7 (by omega) hag
      rw [e] at q1
      refine ⟨I', ?_, q2⟩
      rw [s_X8_postOf_0_13]
      simp (disch := omega) only [s_X8_postOf_0_0, s_X8_postOf_0_1, s_X8_postOf_0_4, s_X8_postOf_0_5, s_X8_postOf_0_6, s_X8_postOf_0_7, s_X8_postOf_0_8, s_X8_postOf_0_10, s_X8_postOf_0_11, s_X8_postOf_0_15, s_X8_postOf_0_17, s_X8_postOf_0_20, s_X8_postOf_0_21, s_X8_postOf_0_24, s_X8_postOf_0_26, s_X8_postOf_0_27, s_X8_postOf_0_28, s_X8_postOf_0_29, s_X8_postOf_0_32, s_X8_postOf_0_33, s_X8_postOf_0_35, s_X8_postOf_0_36, s_X8_postOf_0_37, s_X8_postOf_0_39, s_X8_postOf_0_40, s_X8_postOf_0_41, s_X8_postOf_0_44, s_X8_postOf_0_45, s_X8_postOf_0_46, s_X8_postOf_0_49, s_X8_postOf_0_50, s_X8_postOf_0_53, s_X8_postOf_0_55, s_X8_postOf_0_56, s_X8_postOf_0_57, s_X8_postOf_0_60, s_X8_postOf_0_62, s_X8_postOf_0_64, s_X8_postOf_0_67, s_X8_postOf_0_68, s_X8_postOf_0_71, s_X8_postOf_0_72, s_X8_postOf_0_74, s_X8_postOf_0_76, s_X8_postOf_0_79, s_X8_postOf_0_81, s_X8_postOf_0_84, s_X8_postOf_0_85, s_X8_postOf_0_86, s_X8_postOf_0_88, s_X8_postOf_0_91, s_X8_postOf_0_93, s_X8_postOf_0_96, s_X8_postOf_0_98, s_X8_postOf_0_100, s_X8_postOf_0_103, s_X8_postOf_0_106, s_X8_postOf_0_107, s_X8_postOf_0_110, s_X8_postOf_0_111, s_X8_postOf_0_114, s_X8_postOf_0_116, ↓i_lt_t, ↓i_lt_f, ↓i_le_t, ↓i_le_f, ↓i_eq_t, ↓i_eq_f, ↓i_m1a, ↓i_m1b, ↓i_m1c, ↓i_m1d, ↓i_m1e, ↓i_m1f, c_lt, c_le, c_eq, if_pos, if_neg, bnd_some, Option.toList, List.nil_append, List.cons_append, c_add, m1_lt, m1_eq1, m1_eq2, m1_le, ret_1, ret_0, if_true, if_false, eq_self_iff, ed, gs1]
      exact q1
theorem postOf_ok (sc : Nat × (Nat → Int32)) (I : Nat → Int32) (A : Nat → Nat → Int32) (Z : Int64) (s : Nat → Nat) (d k : Nat) (hX : MH s d k I A) (n : Nat) (cc cw : Nat → Nat) (hC : MC2 n cc cw I A) (what : Int32) :
    ∃ I' : Nat → Int32, rs sc 119 0 [some (.ref 26), some (.int what), none, none, none, none, none, none] [] [] (hp I A Z) = some (some (.int (if what = nI 0 then bI (pst s d k (seenF s d k (fun _ => 0) cc cw n) 48).1 else nI (pst s d k (seenF s d k (fun _ => 0) cc cw n) 48).2)), hp I' A Z) ∧ AgM I' I := by
  obtain ⟨I1, e1, e2⟩ := mAny_ok sc I A Z s d k hX n cc cw hC
  obtain ⟨I', q1, q2⟩ := mPost_loop sc A Z s d k I hX (seenF s d k (fun _ => 0) cc cw n) what 48 0 I1 none none (by omega) e2
  refine ⟨I', ?_, q2⟩
  simp (disch := omega) only [s_X8_postOf_0_0, s_X8_postOf_0_1, s_X8_postOf_0_4, s_X8_postOf_0_5, s_X8_postOf_0_6, s_X8_postOf_0_7, s_X8_postOf_0_8, s_X8_postOf_0_10, s_X8_postOf_0_11, s_X8_postOf_0_15, s_X8_postOf_0_17, s_X8_postOf_0_20, s_X8_postOf_0_21, s_X8_postOf_0_24, s_X8_postOf_0_26, s_X8_postOf_0_27, s_X8_postOf_0_28, s_X8_postOf_0_29, s_X8_postOf_0_32, s_X8_postOf_0_33, s_X8_postOf_0_35, s_X8_postOf_0_36, s_X8_postOf_0_37, s_X8_postOf_0_39, s_X8_postOf_0_40, s_X8_postOf_0_41, s_X8_postOf_0_44, s_X8_postOf_0_45, s_X8_postOf_0_46, s_X8_postOf_0_49, s_X8_postOf_0_50, s_X8_postOf_0_53, s_X8_postOf_0_55, s_X8_postOf_0_56, s_X8_postOf_0_57, s_X8_postOf_0_60, s_X8_postOf_0_62, s_X8_postOf_0_64, s_X8_postOf_0_67, s_X8_postOf_0_68, s_X8_postOf_0_71, s_X8_postOf_0_72, s_X8_postOf_0_74, s_X8_postOf_0_76, s_X8_postOf_0_79, s_X8_postOf_0_81, s_X8_postOf_0_84, s_X8_postOf_0_85, s_X8_postOf_0_86, s_X8_postOf_0_88, s_X8_postOf_0_91, s_X8_postOf_0_93, s_X8_postOf_0_96, s_X8_postOf_0_98, s_X8_postOf_0_100, s_X8_postOf_0_103, s_X8_postOf_0_106, s_X8_postOf_0_107, s_X8_postOf_0_110, s_X8_postOf_0_111, s_X8_postOf_0_114, s_X8_postOf_0_116, ↓i_lt_t, ↓i_lt_f, ↓i_le_t, ↓i_le_f, ↓i_eq_t, ↓i_eq_f, ↓i_m1a, ↓i_m1b, ↓i_m1c, ↓i_m1d, ↓i_m1e, ↓i_m1f, c_lt, c_le, c_eq, if_pos, if_neg, bnd_some, Option.toList, List.nil_append, List.cons_append, c_add, m1_lt, m1_eq1, m1_eq2, m1_le, ret_1, ret_0, if_true, if_false, eq_self_iff, e1]
  exact q1
