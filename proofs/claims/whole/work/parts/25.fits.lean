/-! FITS AND ENDS, on both sides -/
def gst (s : Nat → Nat) (seen told : Int32) (V : Nat → Int32) : Nat → Nat → Int32
  | 0 => fun _ => nI 0
  | i + 1 => if fb s (i / 4) (i % 4) < 12 ∧ (told = -1 ∨ told = tb seen (fb s (i / 4) (i % 4))) then upd (gst s seen told V i) (fb s (i / 4) (i % 4)) (gst s seen told V i (fb s (i / 4) (i % 4)) + V (i / 4)) else gst s seen told V i
def fitV (s : Nat → Nat) (seen : Int32) (lt : Nat → Int32) (from_ : Nat) : Nat → Nat → Int32
  | 0 => fun c => if c = from_ then nI 1 else nI 0
  | k + 1 => gst s seen (lt k) (fitV s seen lt from_ k) 48
theorem gst_cong (s : Nat → Nat) (seen told : Int32) (V W : Nat → Int32) (h : EqN 12 V W) : ∀ i, i ≤ 48 → gst s seen told V i = gst s seen told W i
  | 0, _ => rfl
  | i + 1, hi => by
    have e := gst_cong s seen told V W h i (by omega)
    unfold gst
    rw [e, h (i / 4) (by omega)]
theorem cI_12 {n : Nat} (h : n = 12) : cI n = -1 := if_pos h
theorem cI_lt {n : Nat} (h : n < 12) : cI n = nI n := if_neg (by omega)
/-- one row of STEPS more: what is longer by one -/
theorem goOn_step (sc : Nat × (Nat → Int32)) (I : Nat → Int32) (A : Nat → Nat → Int32) (Z : Int64) (s : Nat → Nat) (d : Nat) (hX : XH s d I A) (seen told : Int32) (V : Nat → Int32) (hV : EqN 12 (A 22) V) (i : Nat) (hi : i < 48) (g : Nat → Int32) (hg : EqN 12 g (gst s seen told V i)) (l6 : Option Value) :
    ∃ (g' : Nat → Int32) (l6' : Option Value), rs sc 25 21 [some (.ref 21), some (.ref 3), some (.int seen), some (.int told), some (.int (nI (i / 4))), some (.int (nI (i % 4))), l6] [] [] (hp I (setA A 23 g) Z) = rs sc 25 21 [some (.ref 21), some (.ref 3), some (.int seen), some (.int told), some (.int (nI (i / 4))), some (.int (nI (i % 4 + 1))), l6'] [] [] (hp I (setA A 23 g') Z) ∧ EqN 12 g' (gst s seen told V (i + 1)) := by
  have hw4 : i % 4 < 4 := Nat.mod_lt _ (by decide)
  have hc : i / 4 < 12 := by omega
  have hX2 : XH s d I (setA A 23 g) := ⟨hX.1, hX.2.1, hX.2.2.1, hX.2.2.2.1, fun c hc => by rw [sa_n (by decide)]; exact hX.2.2.2.2 c hc⟩
  have hfb := floorBeside_ok sc I (setA A 23 g) Z s d hX2 (i / 4) (i % 4) hc hw4
  have hle := fb_le s (i / 4) (i % 4)
  rw [s_X3_goOn_0_21]
  by_cases h12 : fb s (i / 4) (i % 4) = 12
  · rw [cI_12 h12] at hfb
    refine ⟨g, some (.int (-1)), ?_, ?_⟩
    · simp (disch := omega) only [s_X3_goOn_0_0, s_X3_goOn_0_1, s_X3_goOn_0_4, s_X3_goOn_0_5, s_X3_goOn_0_8, s_X3_goOn_0_9, s_X3_goOn_0_11, s_X3_goOn_0_13, s_X3_goOn_0_15, s_X3_goOn_0_18, s_X3_goOn_0_19, s_X3_goOn_0_23, s_X3_goOn_0_24, s_X3_goOn_0_27, s_X3_goOn_0_28, s_X3_goOn_0_30, s_X3_goOn_0_32, s_X3_goOn_0_35, s_X3_goOn_0_37, s_X3_goOn_0_39, s_X3_goOn_0_40, s_X3_goOn_0_43, s_X3_goOn_0_44, s_X3_goOn_0_45, s_X3_goOn_0_48, s_X3_goOn_0_49, s_X3_goOn_0_50, s_X3_goOn_0_52, s_X3_goOn_0_55, s_X3_goOn_0_58, s_X3_goOn_0_59, s_X3_goOn_0_62, s_X3_goOn_0_64, s_X3_goOn_0_65, s_X3_goOn_0_68, s_X3_goOn_0_70, s_X3_goOn_0_73, s_X3_goOn_0_74, s_X3_goOn_0_77, s_X3_goOn_0_79, s_X3_goOn_0_82, s_X3_goOn_0_83, s_X3_goOn_0_86, s_X3_goOn_0_89, s_X3_goOn_0_92, s_X3_goOn_0_95, s_X3_goOn_0_98, s_X3_goOn_0_99, s_X3_goOn_0_102, s_X3_goOn_0_103, s_X3_goOn_0_106, s_X3_goOn_0_109, ↓i_lt_t, ↓i_lt_f, ↓i_le_t, ↓i_le_f, ↓i_eq_t, ↓i_eq_f, ↓i_m1a, ↓i_m1b, ↓i_m1c, ↓i_m1d, ↓i_m1e, ↓i_m1f, c_lt, c_le, c_eq, if_pos, if_neg, bnd_some, Option.toList, List.nil_append, List.cons_append, c_add, m1_lt, m1_eq1, m1_eq2, m1_le, ret_1, ret_0, if_true, if_false, eq_self_iff, hfb]
    · rw [show gst s seen told V (i + 1) = gst s seen told V i by rw [gst, if_neg (by omega)]]
      exact hg
  · have hlt : fb s (i / 4) (i % 4) < 12 := by omega
    rw [cI_lt hlt] at hfb
    by_cases ht : told = -1 ∨ told = tb seen (fb s (i / 4) (i % 4))
    · refine ⟨upd g (fb s (i / 4) (i % 4)) (g (fb s (i / 4) (i % 4)) + A 22 (i / 4)), some (.int (nI (fb s (i / 4) (i % 4)))), ?_, ?_⟩
      · by_cases h1 : told = -1
        · simp (disch := omega) only [s_X3_goOn_0_0, s_X3_goOn_0_1, s_X3_goOn_0_4, s_X3_goOn_0_5, s_X3_goOn_0_8, s_X3_goOn_0_9, s_X3_goOn_0_11, s_X3_goOn_0_13, s_X3_goOn_0_15, s_X3_goOn_0_18, s_X3_goOn_0_19, s_X3_goOn_0_23, s_X3_goOn_0_24, s_X3_goOn_0_27, s_X3_goOn_0_28, s_X3_goOn_0_30, s_X3_goOn_0_32, s_X3_goOn_0_35, s_X3_goOn_0_37, s_X3_goOn_0_39, s_X3_goOn_0_40, s_X3_goOn_0_43, s_X3_goOn_0_44, s_X3_goOn_0_45, s_X3_goOn_0_48, s_X3_goOn_0_49, s_X3_goOn_0_50, s_X3_goOn_0_52, s_X3_goOn_0_55, s_X3_goOn_0_58, s_X3_goOn_0_59, s_X3_goOn_0_62, s_X3_goOn_0_64, s_X3_goOn_0_65, s_X3_goOn_0_68, s_X3_goOn_0_70, s_X3_goOn_0_73, s_X3_goOn_0_74, s_X3_goOn_0_77, s_X3_goOn_0_79, s_X3_goOn_0_82, s_X3_goOn_0_83, s_X3_goOn_0_86, s_X3_goOn_0_89, s_X3_goOn_0_92, s_X3_goOn_0_95, s_X3_goOn_0_98, s_X3_goOn_0_99, s_X3_goOn_0_102, s_X3_goOn_0_103, s_X3_goOn_0_106, s_X3_goOn_0_109, ↓i_lt_t, ↓i_lt_f, ↓i_le_t, ↓i_le_f, ↓i_eq_t, ↓i_eq_f, ↓i_m1a, ↓i_m1b, ↓i_m1c, ↓i_m1d, ↓i_m1e, ↓i_m1f, c_lt, c_le, c_eq, if_pos, if_neg, bnd_some, Option.toList, List.nil_append, List.cons_append, c_add, m1_lt, m1_eq1, m1_eq2, m1_le, ret_1, ret_0, if_true, if_false, eq_self_iff, hfb, ↓if_pos h1, at_23, at_22, sa_s, sa_n, put_23, ua_sa]
        · have h2 : told = tb seen (fb s (i / 4) (i % 4)) := by rcases ht with h | h; exact absurd h h1; exact h
          simp (disch := omega) only [s_X3_goOn_0_0, s_X3_goOn_0_1, s_X3_goOn_0_4, s_X3_goOn_0_5, s_X3_goOn_0_8, s_X3_goOn_0_9, s_X3_goOn_0_11, s_X3_goOn_0_13, s_X3_goOn_0_15, s_X3_goOn_0_18, s_X3_goOn_0_19, s_X3_goOn_0_23, s_X3_goOn_0_24, s_X3_goOn_0_27, s_X3_goOn_0_28, s_X3_goOn_0_30, s_X3_goOn_0_32, s_X3_goOn_0_35, s_X3_goOn_0_37, s_X3_goOn_0_39, s_X3_goOn_0_40, s_X3_goOn_0_43, s_X3_goOn_0_44, s_X3_goOn_0_45, s_X3_goOn_0_48, s_X3_goOn_0_49, s_X3_goOn_0_50, s_X3_goOn_0_52, s_X3_goOn_0_55, s_X3_goOn_0_58, s_X3_goOn_0_59, s_X3_goOn_0_62, s_X3_goOn_0_64, s_X3_goOn_0_65, s_X3_goOn_0_68, s_X3_goOn_0_70, s_X3_goOn_0_73, s_X3_goOn_0_74, s_X3_goOn_0_77, s_X3_goOn_0_79, s_X3_goOn_0_82, s_X3_goOn_0_83, s_X3_goOn_0_86, s_X3_goOn_0_89, s_X3_goOn_0_92, s_X3_goOn_0_95, s_X3_goOn_0_98, s_X3_goOn_0_99, s_X3_goOn_0_102, s_X3_goOn_0_103, s_X3_goOn_0_106, s_X3_goOn_0_109, ↓i_lt_t, ↓i_lt_f, ↓i_le_t, ↓i_le_f, ↓i_eq_t, ↓i_eq_f, ↓i_m1a, ↓i_m1b, ↓i_m1c, ↓i_m1d, ↓i_m1e, ↓i_m1f, c_lt, c_le, c_eq, if_pos, if_neg, bnd_some, Option.toList, List.nil_append, List.cons_append, c_add, m1_lt, m1_eq1, m1_eq2, m1_le, ret_1, ret_0, if_true, if_false, eq_self_iff, hfb, ↓if_neg h1, bit_in, ↓if_pos h2, at_23, at_22, sa_s, sa_n, put_23, ua_sa]
      · rw [show gst s seen told V (i + 1) = upd (gst s seen told V i) (fb s (i / 4) (i % 4)) (gst s seen told V i (fb s (i / 4) (i % 4)) + V (i / 4)) by rw [gst, if_pos ⟨hlt, ht⟩]]
        intro j hj
        by_cases e : j = fb s (i / 4) (i % 4)
        · subst e; rw [pk_us, pk_us, hg _ hj, hV _ hc]
        · rw [pk_un e, pk_un e]; exact hg j hj
    · refine ⟨g, some (.int (nI (fb s (i / 4) (i % 4)))), ?_, ?_⟩
      · have h1 : ¬ told = -1 := fun q => ht (Or.inl q)
        have h2 : ¬ told = tb seen (fb s (i / 4) (i % 4)) := fun q => ht (Or.inr q)
        simp (disch := omega) only [s_X3_goOn_0_0, s_X3_goOn_0_1, s_X3_goOn_0_4, s_X3_goOn_0_5, s_X3_goOn_0_8, s_X3_goOn_0_9, s_X3_goOn_0_11, s_X3_goOn_0_13, s_X3_goOn_0_15, s_X3_goOn_0_18, s_X3_goOn_0_19, s_X3_goOn_0_23, s_X3_goOn_0_24, s_X3_goOn_0_27, s_X3_goOn_0_28, s_X3_goOn_0_30, s_X3_goOn_0_32, s_X3_goOn_0_35, s_X3_goOn_0_37, s_X3_goOn_0_39, s_X3_goOn_0_40, s_X3_goOn_0_43, s_X3_goOn_0_44, s_X3_goOn_0_45, s_X3_goOn_0_48, s_X3_goOn_0_49, s_X3_goOn_0_50, s_X3_goOn_0_52, s_X3_goOn_0_55, s_X3_goOn_0_58, s_X3_goOn_0_59, s_X3_goOn_0_62, s_X3_goOn_0_64, s_X3_goOn_0_65, s_X3_goOn_0_68, s_X3_goOn_0_70, s_X3_goOn_0_73, s_X3_goOn_0_74, s_X3_goOn_0_77, s_X3_goOn_0_79, s_X3_goOn_0_82, s_X3_goOn_0_83, s_X3_goOn_0_86, s_X3_goOn_0_89, s_X3_goOn_0_92, s_X3_goOn_0_95, s_X3_goOn_0_98, s_X3_goOn_0_99, s_X3_goOn_0_102, s_X3_goOn_0_103, s_X3_goOn_0_106, s_X3_goOn_0_109, ↓i_lt_t, ↓i_lt_f, ↓i_le_t, ↓i_le_f, ↓i_eq_t, ↓i_eq_f, ↓i_m1a, ↓i_m1b, ↓i_m1c, ↓i_m1d, ↓i_m1e, ↓i_m1f, c_lt, c_le, c_eq, if_pos, if_neg, bnd_some, Option.toList, List.nil_append, List.cons_append, c_add, m1_lt, m1_eq1, m1_eq2, m1_le, ret_1, ret_0, if_true, if_false, eq_self_iff, hfb, ↓if_neg h1, bit_in, ↓if_neg h2]
      · rw [show gst s seen told V (i + 1) = gst s seen told V i by rw [gst, if_neg (fun q => ht q.2)]]
        exact hg
theorem goOn_loop (sc : Nat × (Nat → Int32)) (I : Nat → Int32) (A : Nat → Nat → Int32) (Z : Int64) (s : Nat → Nat) (d : Nat) (hX : XH s d I A) (seen told : Int32) (V : Nat → Int32) (hV : EqN 12 (A 22) V) :
    ∀ (f i : Nat) (g : Nat → Int32) (l6 : Option Value), i + f + 1 = 48 → EqN 12 g (gst s seen told V i) →
      ∃ (g' : Nat → Int32) (l6' : Option Value), rs sc 25 21 [some (.ref 21), some (.ref 3), some (.int seen), some (.int told), some (.int (nI (i / 4))), some (.int (nI (i % 4))), l6] [] [] (hp I (setA A 23 g) Z) = rs sc 25 98 [some (.ref 21), some (.ref 3), some (.int seen), some (.int told), some (.int (nI 12)), some (.int (nI 4)), l6'] [] [] (hp I (setA A 23 g') Z) ∧ EqN 12 g' (gst s seen told V 48) := by
  intro f
  induction f with
  | zero =>
    intro i g l6 hi hg
    have e : i = 47 := by omega
    subst e
    obtain ⟨g1, l1, q1, q2⟩ := goOn_step sc I A Z s d hX seen told V hV 47 (by omega) g hg l6
    refine ⟨g1, l1, ?_, q2⟩
    rw [q1, s_X3_goOn_0_21]
    simp (disch := omega) only [s_X3_goOn_0_0, s_X3_goOn_0_1, s_X3_goOn_0_4, s_X3_goOn_0_5, s_X3_goOn_0_8, s_X3_goOn_0_9, s_X3_goOn_0_11, s_X3_goOn_0_13, s_X3_goOn_0_15, s_X3_goOn_0_18, s_X3_goOn_0_19, s_X3_goOn_0_23, s_X3_goOn_0_24, s_X3_goOn_0_27, s_X3_goOn_0_28, s_X3_goOn_0_30, s_X3_goOn_0_32, s_X3_goOn_0_35, s_X3_goOn_0_37, s_X3_goOn_0_39, s_X3_goOn_0_40, s_X3_goOn_0_43, s_X3_goOn_0_44, s_X3_goOn_0_45, s_X3_goOn_0_48, s_X3_goOn_0_49, s_X3_goOn_0_50, s_X3_goOn_0_52, s_X3_goOn_0_55, s_X3_goOn_0_58, s_X3_goOn_0_59, s_X3_goOn_0_62, s_X3_goOn_0_64, s_X3_goOn_0_65, s_X3_goOn_0_68, s_X3_goOn_0_70, s_X3_goOn_0_73, s_X3_goOn_0_74, s_X3_goOn_0_77, s_X3_goOn_0_79, s_X3_goOn_0_82, s_X3_goOn_0_83, s_X3_goOn_0_86, s_X3_goOn_0_89, s_X3_goOn_0_92, s_X3_goOn_0_95, s_X3_goOn_0_99, s_X3_goOn_0_102, s_X3_goOn_0_103, s_X3_goOn_0_106, s_X3_goOn_0_109, ↓i_lt_t, ↓i_lt_f, ↓i_le_t, ↓i_le_f, ↓i_eq_t, ↓i_eq_f, ↓i_m1a, ↓i_m1b, ↓i_m1c, ↓i_m1d, ↓i_m1e, ↓i_m1f, c_lt, c_le, c_eq, if_pos, if_neg, bnd_some, Option.toList, List.nil_append, List.cons_append, c_add, m1_lt, m1_eq1, m1_eq2, m1_le, ret_1, ret_0, if_true, if_false, eq_self_iff, Nat.reduceDiv, Nat.reduceMod, Nat.reduceAdd]
  | succ f ih =>
    intro i g l6 hi hg
    obtain ⟨g1, l1, q1, q2⟩ := goOn_step sc I A Z s d hX seen told V hV i (by omega) g hg l6
    obtain ⟨g2, l2, r1, r2⟩ := ih (i + 1) g1 l1 (by omega) q2
    refine ⟨g2, l2, ?_, r2⟩
    rw [q1, ← r1]
    by_cases h3 : i % 4 = 3
    · rw [s_X3_goOn_0_21, show (i + 1) / 4 = i / 4 + 1 by omega, show (i + 1) % 4 = 0 by omega]
      simp (disch := omega) only [s_X3_goOn_0_0, s_X3_goOn_0_1, s_X3_goOn_0_4, s_X3_goOn_0_5, s_X3_goOn_0_8, s_X3_goOn_0_9, s_X3_goOn_0_11, s_X3_goOn_0_13, s_X3_goOn_0_15, s_X3_goOn_0_18, s_X3_goOn_0_19, s_X3_goOn_0_23, s_X3_goOn_0_24, s_X3_goOn_0_27, s_X3_goOn_0_28, s_X3_goOn_0_30, s_X3_goOn_0_32, s_X3_goOn_0_35, s_X3_goOn_0_37, s_X3_goOn_0_39, s_X3_goOn_0_40, s_X3_goOn_0_43, s_X3_goOn_0_44, s_X3_goOn_0_45, s_X3_goOn_0_48, s_X3_goOn_0_49, s_X3_goOn_0_50, s_X3_goOn_0_52, s_X3_goOn_0_55, s_X3_goOn_0_58, s_X3_goOn_0_59, s_X3_goOn_0_62, s_X3_goOn_0_64, s_X3_goOn_0_65, s_X3_goOn_0_68, s_X3_goOn_0_70, s_X3_goOn_0_73, s_X3_goOn_0_74, s_X3_goOn_0_77, s_X3_goOn_0_79, s_X3_goOn_0_82, s_X3_goOn_0_83, s_X3_goOn_0_86, s_X3_goOn_0_89, s_X3_goOn_0_92, s_X3_goOn_0_95, s_X3_goOn_0_99, s_X3_goOn_0_102, s_X3_goOn_0_103, s_X3_goOn_0_106, s_X3_goOn_0_109, ↓i_lt_t, ↓i_lt_f, ↓i_le_t, ↓i_le_f, ↓i_eq_t, ↓i_eq_f, ↓i_m1a, ↓i_m1b, ↓i_m1c, ↓i_m1d, ↓i_m1e, ↓i_m1f, c_lt, c_le, c_eq, if_pos, if_neg, bnd_some, Option.toList, List.nil_append, List.cons_append, c_add, m1_lt, m1_eq1, m1_eq2, m1_le, ret_1, ret_0, if_true, if_false, eq_self_iff, h3, Nat.reduceAdd]
    · rw [show (i + 1) / 4 = i / 4 by omega, show (i + 1) % 4 = i % 4 + 1 by omega]
theorem goOn_ok (sc : Nat × (Nat → Int32)) (I : Nat → Int32) (A : Nat → Nat → Int32) (Z : Int64) (s : Nat → Nat) (d : Nat) (hX : XH s d I A) (seen told : Int32) (V : Nat → Int32) (hV : EqN 12 (A 22) V) :
    ∃ (g g2 : Nat → Int32), rs sc 25 0 [some (.ref 21), some (.ref 3), some (.int seen), some (.int told), none, none, none] [] [] (hp I A Z) = some (none, hp I (setA (setA A 23 g) 22 g2) Z) ∧ EqN 12 g2 (gst s seen told V 48) := by
  obtain ⟨g0, f1, f2⟩ := fill_23 sc I A Z (nI 0)
  obtain ⟨g, l6, q1, q2⟩ := goOn_loop sc I A Z s d hX seen told V hV 47 0 g0 none (by omega) (fun j hj => f2 j hj)
  obtain ⟨g2, c1, c2⟩ := cp_23_22 sc I (setA A 23 g) Z
  refine ⟨g, g2, ?_, fun j hj => by rw [c2 j hj, sa_s]; exact q2 j hj⟩
  simp (disch := omega) only [s_X3_goOn_0_0, s_X3_goOn_0_1, s_X3_goOn_0_4, s_X3_goOn_0_5, s_X3_goOn_0_8, s_X3_goOn_0_9, s_X3_goOn_0_11, s_X3_goOn_0_13, s_X3_goOn_0_15, s_X3_goOn_0_18, s_X3_goOn_0_19, s_X3_goOn_0_23, s_X3_goOn_0_24, s_X3_goOn_0_27, s_X3_goOn_0_28, s_X3_goOn_0_30, s_X3_goOn_0_32, s_X3_goOn_0_35, s_X3_goOn_0_37, s_X3_goOn_0_39, s_X3_goOn_0_40, s_X3_goOn_0_43, s_X3_goOn_0_44, s_X3_goOn_0_45, s_X3_goOn_0_48, s_X3_goOn_0_49, s_X3_goOn_0_50, s_X3_goOn_0_52, s_X3_goOn_0_55, s_X3_goOn_0_58, s_X3_goOn_0_59, s_X3_goOn_0_62, s_X3_goOn_0_64, s_X3_goOn_0_65, s_X3_goOn_0_68, s_X3_goOn_0_70, s_X3_goOn_0_73, s_X3_goOn_0_74, s_X3_goOn_0_77, s_X3_goOn_0_79, s_X3_goOn_0_82, s_X3_goOn_0_83, s_X3_goOn_0_86, s_X3_goOn_0_89, s_X3_goOn_0_92, s_X3_goOn_0_95, s_X3_goOn_0_98, s_X3_goOn_0_99, s_X3_goOn_0_102, s_X3_goOn_0_103, s_X3_goOn_0_106, s_X3_goOn_0_109, ↓i_lt_t, ↓i_lt_f, ↓i_le_t, ↓i_le_f, ↓i_eq_t, ↓i_eq_f, ↓i_m1a, ↓i_m1b, ↓i_m1c, ↓i_m1d, ↓i_m1e, ↓i_m1f, c_lt, c_le, c_eq, if_pos, if_neg, bnd_some, Option.toList, List.nil_append, List.cons_append, c_add, m1_lt, m1_eq1, m1_eq2, m1_le, ret_1, ret_0, if_true, if_false, eq_self_iff, f1]
  rw [show (nI 0) = nI (0 % 4) from rfl] at *
  refine Eq.trans q1 ?_
  simp (disch := omega) only [s_X3_goOn_0_0, s_X3_goOn_0_1, s_X3_goOn_0_4, s_X3_goOn_0_5, s_X3_goOn_0_8, s_X3_goOn_0_9, s_X3_goOn_0_11, s_X3_goOn_0_13, s_X3_goOn_0_15, s_X3_goOn_0_18, s_X3_goOn_0_19, s_X3_goOn_0_23, s_X3_goOn_0_24, s_X3_goOn_0_27, s_X3_goOn_0_28, s_X3_goOn_0_30, s_X3_goOn_0_32, s_X3_goOn_0_35, s_X3_goOn_0_37, s_X3_goOn_0_39, s_X3_goOn_0_40, s_X3_goOn_0_43, s_X3_goOn_0_44, s_X3_goOn_0_45, s_X3_goOn_0_48, s_X3_goOn_0_49, s_X3_goOn_0_50, s_X3_goOn_0_52, s_X3_goOn_0_55, s_X3_goOn_0_58, s_X3_goOn_0_59, s_X3_goOn_0_62, s_X3_goOn_0_64, s_X3_goOn_0_65, s_X3_goOn_0_68, s_X3_goOn_0_70, s_X3_goOn_0_73, s_X3_goOn_0_74, s_X3_goOn_0_77, s_X3_goOn_0_79, s_X3_goOn_0_82, s_X3_goOn_0_83, s_X3_goOn_0_86, s_X3_goOn_0_89, s_X3_goOn_0_92, s_X3_goOn_0_95, s_X3_goOn_0_98, s_X3_goOn_0_99, s_X3_goOn_0_102, s_X3_goOn_0_103, s_X3_goOn_0_106, s_X3_goOn_0_109, ↓i_lt_t, ↓i_lt_f, ↓i_le_t, ↓i_le_f, ↓i_eq_t, ↓i_eq_f, ↓i_m1a, ↓i_m1b, ↓i_m1c, ↓i_m1d, ↓i_m1e, ↓i_m1f, c_lt, c_le, c_eq, if_pos, if_neg, bnd_some, Option.toList, List.nil_append, List.cons_append, c_add, m1_lt, m1_eq1, m1_eq2, m1_le, ret_1, ret_0, if_true, if_false, eq_self_iff, c1]
/-- the ledger of the class -/
def XL (q : Nat) (lt : Nat → Int32) (I : Nat → Int32) (A : Nat → Nat → Int32) : Prop := I 8 = nI q ∧ q ≤ 8 ∧ ∀ j, j < q → A 10 j = lt j
def ML2 (q : Nat) (lt : Nat → Int32) (I : Nat → Int32) (A : Nat → Nat → Int32) : Prop := I 29 = nI q ∧ q ≤ 8 ∧ ∀ j, j < q → A 33 j = lt j
theorem rk_loop (sc : Nat × (Nat → Int32)) (I : Nat → Int32) (A : Nat → Nat → Int32) (Z : Int64) (s : Nat → Nat) (d : Nat) (hX : XH s d I A) (seen : Int32) (from_ q : Nat) (lt : Nat → Int32) (hL : XL q lt I A) :
    ∀ (f k : Nat) (g1 g2 : Nat → Int32), k + f = q → EqN 12 g2 (fitV s seen lt from_ k) →
      ∃ (h1 h2 : Nat → Int32), rs sc 22 21 [some (.ref 21), some (.ref 3), some (.ref 5), some (.int seen), some (.int (nI from_)), some (.int (nI k))] [] [] (hp I (setA (setA A 23 g1) 22 g2) Z) = some (none, hp I (setA (setA A 23 h1) 22 h2) Z) ∧ EqN 12 h2 (fitV s seen lt from_ q) := by
  intro f
  obtain ⟨l1, l2, l3⟩ := hL
  induction f with
  | zero =>
    intro k g1 g2 hk hg
    have e : k = q := by omega
    subst e
    exact ⟨g1, g2, by simp (disch := omega) only [s_X3_reckon_0_0, s_X3_reckon_0_1, s_X3_reckon_0_4, s_X3_reckon_0_5, s_X3_reckon_0_8, s_X3_reckon_0_9, s_X3_reckon_0_12, s_X3_reckon_0_14, s_X3_reckon_0_15, s_X3_reckon_0_18, s_X3_reckon_0_19, s_X3_reckon_0_21, s_X3_reckon_0_23, s_X3_reckon_0_24, s_X3_reckon_0_27, s_X3_reckon_0_30, s_X3_reckon_0_31, s_X3_reckon_0_32, s_X3_reckon_0_33, s_X3_reckon_0_34, s_X3_reckon_0_37, s_X3_reckon_0_39, s_X3_reckon_0_42, s_X3_reckon_0_45, s_X3_reckon_0_48, s_X3_reckon_0_51, ↓i_lt_t, ↓i_lt_f, ↓i_le_t, ↓i_le_f, ↓i_eq_t, ↓i_eq_f, ↓i_m1a, ↓i_m1b, ↓i_m1c, ↓i_m1d, ↓i_m1e, ↓i_m1f, c_lt, c_le, c_eq, if_pos, if_neg, bnd_some, Option.toList, List.nil_append, List.cons_append, c_add, m1_lt, m1_eq1, m1_eq2, m1_le, ret_1, ret_0, if_true, if_false, eq_self_iff, l1], hg⟩
  | succ f ih =>
    intro k g1 g2 hk hg
    have hX2 : XH s d I (setA (setA A 23 g1) 22 g2) := ⟨hX.1, hX.2.1, hX.2.2.1, hX.2.2.2.1, fun c hc => by rw [sa_n (by decide), sa_n (by decide)]; exact hX.2.2.2.2 c hc⟩
    obtain ⟨a1, a2, r1, r2⟩ := goOn_ok sc I (setA (setA A 23 g1) 22 g2) Z s d hX2 seen (lt k) (fitV s seen lt from_ k) (by rw [sa_s]; exact hg)
    have es : setA (setA (setA (setA A 23 g1) 22 g2) 23 a1) 22 a2 = setA (setA A 23 a1) 22 a2 := by
      funext p
      by_cases e : p = 22
      · subst e; rw [sa_s, sa_s]
      · rw [sa_n e, sa_n e]
        by_cases e2 : p = 23
        · subst e2; rw [sa_s, sa_s]
        · rw [sa_n e2, sa_n e2, sa_n e, sa_n e2]
    rw [es] at r1
    obtain ⟨h1, h2, q1, q2⟩ := ih (k + 1) a1 a2 (by omega) r2
    refine ⟨h1, h2, ?_, q2⟩
    rw [s_X3_reckon_0_21]
    simp (disch := omega) only [s_X3_reckon_0_0, s_X3_reckon_0_1, s_X3_reckon_0_4, s_X3_reckon_0_5, s_X3_reckon_0_8, s_X3_reckon_0_9, s_X3_reckon_0_12, s_X3_reckon_0_14, s_X3_reckon_0_15, s_X3_reckon_0_18, s_X3_reckon_0_19, s_X3_reckon_0_23, s_X3_reckon_0_24, s_X3_reckon_0_27, s_X3_reckon_0_30, s_X3_reckon_0_31, s_X3_reckon_0_32, s_X3_reckon_0_33, s_X3_reckon_0_34, s_X3_reckon_0_37, s_X3_reckon_0_39, s_X3_reckon_0_42, s_X3_reckon_0_45, s_X3_reckon_0_48, s_X3_reckon_0_51, ↓i_lt_t, ↓i_lt_f, ↓i_le_t, ↓i_le_f, ↓i_eq_t, ↓i_eq_f, ↓i_m1a, ↓i_m1b, ↓i_m1c, ↓i_m1d, ↓i_m1e, ↓i_m1f, c_lt, c_le, c_eq, if_pos, if_neg, bnd_some, Option.toList, List.nil_append, List.cons_append, c_add, m1_lt, m1_eq1, m1_eq2, m1_le, ret_1, ret_0, if_true, if_false, eq_self_iff, l1, at_10, sa_n, l3, r1]
    exact q1
theorem rk_ok (sc : Nat × (Nat → Int32)) (I : Nat → Int32) (A : Nat → Nat → Int32) (Z : Int64) (s : Nat → Nat) (d : Nat) (hX : XH s d I A) (seen : Int32) (from_ q : Nat) (hf : from_ < 12) (lt : Nat → Int32) (hL : XL q lt I A) :
    ∃ (h1 h2 : Nat → Int32), rs sc 22 0 [some (.ref 21), some (.ref 3), some (.ref 5), some (.int seen), some (.int (nI from_)), none] [] [] (hp I A Z) = some (none, hp I (setA (setA A 23 h1) 22 h2) Z) ∧ EqN 12 h2 (fitV s seen lt from_ q) := by
  obtain ⟨g, f1, f2⟩ := fill_22 sc I A Z (nI 0)
  obtain ⟨h1, h2, q1, q2⟩ := rk_loop sc I A Z s d hX seen from_ q lt hL q 0 (A 23) (upd g from_ (nI 1)) (by omega) (fun j hj => by
    by_cases e : j = from_
    · subst e; rw [pk_us]; exact (if_pos rfl).symm
    · rw [pk_un e, f2 j hj]; exact (if_neg e).symm)
  rw [sa_id] at q1
  refine ⟨h1, h2, ?_, q2⟩
  simp (disch := omega) only [s_X3_reckon_0_0, s_X3_reckon_0_1, s_X3_reckon_0_4, s_X3_reckon_0_5, s_X3_reckon_0_8, s_X3_reckon_0_9, s_X3_reckon_0_12, s_X3_reckon_0_14, s_X3_reckon_0_15, s_X3_reckon_0_18, s_X3_reckon_0_19, s_X3_reckon_0_23, s_X3_reckon_0_24, s_X3_reckon_0_27, s_X3_reckon_0_30, s_X3_reckon_0_31, s_X3_reckon_0_32, s_X3_reckon_0_33, s_X3_reckon_0_34, s_X3_reckon_0_37, s_X3_reckon_0_39, s_X3_reckon_0_42, s_X3_reckon_0_45, s_X3_reckon_0_48, s_X3_reckon_0_51, ↓i_lt_t, ↓i_lt_f, ↓i_le_t, ↓i_le_f, ↓i_eq_t, ↓i_eq_f, ↓i_m1a, ↓i_m1b, ↓i_m1c, ↓i_m1d, ↓i_m1e, ↓i_m1f, c_lt, c_le, c_eq, if_pos, if_neg, bnd_some, Option.toList, List.nil_append, List.cons_append, c_add, m1_lt, m1_eq1, m1_eq2, m1_le, ret_1, ret_0, if_true, if_false, eq_self_iff, f1, put_22, ua_sa]
  exact q1
def sumV (V : Nat → Int32) : Nat → Int32
  | 0 => nI 0
  | j + 1 => sumV V j + V j
def endV (V : Nat → Int32) : Nat → Int32
  | 0 => nI 0
  | j + 1 => endV V j ||| (if nI 0 < V j then nI 1 <<< (nI j &&& 31) else nI 0)
theorem number_ok (sc : Nat × (Nat → Int32)) (I : Nat → Int32) (A : Nat → Nat → Int32) (Z : Int64) (V : Nat → Int32) (hV : EqN 12 (A 22) V) : rs sc 23 0 [some (.ref 21), none, none] [] [] (hp I A Z) = some (some (.int (sumV V 12)), hp I A Z) := by
  have lp : ∀ (f j : Nat), j + f = 12 → rs sc 23 4 [some (.ref 21), some (.int (sumV V j)), some (.int (nI j))] [] [] (hp I A Z) = some (some (.int (sumV V 12)), hp I A Z) := by
    intro f
    induction f with
    | zero =>
      intro j hj
      have e : j = 12 := by omega
      subst e
      simp (disch := omega) only [s_X3_number_0_0, s_X3_number_0_1, s_X3_number_0_2, s_X3_number_0_3, s_X3_number_0_4, s_X3_number_0_5, s_X3_number_0_7, s_X3_number_0_10, s_X3_number_0_11, s_X3_number_0_12, s_X3_number_0_15, s_X3_number_0_16, s_X3_number_0_19, s_X3_number_0_20, s_X3_number_0_21, s_X3_number_0_24, s_X3_number_0_27, s_X3_number_0_28, ↓i_lt_t, ↓i_lt_f, ↓i_le_t, ↓i_le_f, ↓i_eq_t, ↓i_eq_f, ↓i_m1a, ↓i_m1b, ↓i_m1c, ↓i_m1d, ↓i_m1e, ↓i_m1f, c_lt, c_le, c_eq, if_pos, if_neg, bnd_some, Option.toList, List.nil_append, List.cons_append, c_add, m1_lt, m1_eq1, m1_eq2, m1_le, ret_1, ret_0, if_true, if_false, eq_self_iff]
    | succ f ih =>
      intro j hj
      have q := ih (j + 1) (by omega)
      have e := hV j (by omega)
      rw [s_X3_number_0_4]
      simp (disch := omega) only [s_X3_number_0_0, s_X3_number_0_1, s_X3_number_0_2, s_X3_number_0_3, s_X3_number_0_5, s_X3_number_0_7, s_X3_number_0_10, s_X3_number_0_11, s_X3_number_0_12, s_X3_number_0_15, s_X3_number_0_16, s_X3_number_0_19, s_X3_number_0_20, s_X3_number_0_21, s_X3_number_0_24, s_X3_number_0_27, s_X3_number_0_28, ↓i_lt_t, ↓i_lt_f, ↓i_le_t, ↓i_le_f, ↓i_eq_t, ↓i_eq_f, ↓i_m1a, ↓i_m1b, ↓i_m1c, ↓i_m1d, ↓i_m1e, ↓i_m1f, c_lt, c_le, c_eq, if_pos, if_neg, bnd_some, Option.toList, List.nil_append, List.cons_append, c_add, m1_lt, m1_eq1, m1_eq2, m1_le, ret_1, ret_0, if_true, if_false, eq_self_iff, at_22, e]
      exact q
  have q := lp 12 0 (by omega)
  simp (disch := omega) only [s_X3_number_0_0, s_X3_number_0_1, s_X3_number_0_2, s_X3_number_0_3, s_X3_number_0_5, s_X3_number_0_7, s_X3_number_0_10, s_X3_number_0_11, s_X3_number_0_12, s_X3_number_0_15, s_X3_number_0_16, s_X3_number_0_19, s_X3_number_0_20, s_X3_number_0_21, s_X3_number_0_24, s_X3_number_0_27, s_X3_number_0_28, ↓i_lt_t, ↓i_lt_f, ↓i_le_t, ↓i_le_f, ↓i_eq_t, ↓i_eq_f, ↓i_m1a, ↓i_m1b, ↓i_m1c, ↓i_m1d, ↓i_m1e, ↓i_m1f, c_lt, c_le, c_eq, if_pos, if_neg, bnd_some, Option.toList, List.nil_append, List.cons_append, c_add, m1_lt, m1_eq1, m1_eq2, m1_le, ret_1, ret_0, if_true, if_false, eq_self_iff]
  exact q
theorem ends_ok (sc : Nat × (Nat → Int32)) (I : Nat → Int32) (A : Nat → Nat → Int32) (Z : Int64) (V : Nat → Int32) (hV : EqN 12 (A 22) V) : rs sc 24 0 [some (.ref 21), none, none] [] [] (hp I A Z) = some (some (.int (endV V 12)), hp I A Z) := by
  have lp : ∀ (f j : Nat), j + f = 12 → rs sc 24 4 [some (.ref 21), some (.int (endV V j)), some (.int (nI j))] [] [] (hp I A Z) = some (some (.int (endV V 12)), hp I A Z) := by
    intro f
    induction f with
    | zero =>
      intro j hj
      have e : j = 12 := by omega
      subst e
      simp (disch := omega) only [s_X3_ends_0_0, s_X3_ends_0_1, s_X3_ends_0_2, s_X3_ends_0_3, s_X3_ends_0_4, s_X3_ends_0_5, s_X3_ends_0_7, s_X3_ends_0_10, s_X3_ends_0_11, s_X3_ends_0_12, s_X3_ends_0_15, s_X3_ends_0_16, s_X3_ends_0_19, s_X3_ends_0_22, s_X3_ends_0_23, s_X3_ends_0_26, s_X3_ends_0_27, s_X3_ends_0_30, s_X3_ends_0_31, s_X3_ends_0_32, s_X3_ends_0_33, s_X3_ends_0_34, s_X3_ends_0_37, s_X3_ends_0_40, s_X3_ends_0_41, ↓i_lt_t, ↓i_lt_f, ↓i_le_t, ↓i_le_f, ↓i_eq_t, ↓i_eq_f, ↓i_m1a, ↓i_m1b, ↓i_m1c, ↓i_m1d, ↓i_m1e, ↓i_m1f, c_lt, c_le, c_eq, if_pos, if_neg, bnd_some, Option.toList, List.nil_append, List.cons_append, c_add, m1_lt, m1_eq1, m1_eq2, m1_le, ret_1, ret_0, if_true, if_false, eq_self_iff]
    | succ f ih =>
      intro j hj
      have q := ih (j + 1) (by omega)
      have e := hV j (by omega)
      rw [s_X3_ends_0_4]
      by_cases hp0 : nI 0 < V j
      · have h2 : ¬ V j ≤ nI 0 := Int32.not_le.mpr hp0
        rw [show endV V (j + 1) = endV V j ||| (nI 1 <<< (nI j &&& 31)) by rw [endV, if_pos hp0]] at q
        simp (disch := omega) only [s_X3_ends_0_0, s_X3_ends_0_1, s_X3_ends_0_2, s_X3_ends_0_3, s_X3_ends_0_5, s_X3_ends_0_7, s_X3_ends_0_10, s_X3_ends_0_11, s_X3_ends_0_12, s_X3_ends_0_15, s_X3_ends_0_16, s_X3_ends_0_19, s_X3_ends_0_22, s_X3_ends_0_23, s_X3_ends_0_26, s_X3_ends_0_27, s_X3_ends_0_30, s_X3_ends_0_31, s_X3_ends_0_32, s_X3_ends_0_33, s_X3_ends_0_34, s_X3_ends_0_37, s_X3_ends_0_40, s_X3_ends_0_41, ↓i_lt_t, ↓i_lt_f, ↓i_le_t, ↓i_le_f, ↓i_eq_t, ↓i_eq_f, ↓i_m1a, ↓i_m1b, ↓i_m1c, ↓i_m1d, ↓i_m1e, ↓i_m1f, c_lt, c_le, c_eq, if_pos, if_neg, bnd_some, Option.toList, List.nil_append, List.cons_append, c_add, m1_lt, m1_eq1, m1_eq2, m1_le, ret_1, ret_0, if_true, if_false, eq_self_iff, at_22, e, ↓if_neg h2, oneIf_1]
        exact q
      · have h2 : V j ≤ nI 0 := Int32.not_lt.mp hp0
        rw [show endV V (j + 1) = endV V j ||| nI 0 by rw [endV, if_neg hp0]] at q
        simp (disch := omega) only [s_X3_ends_0_0, s_X3_ends_0_1, s_X3_ends_0_2, s_X3_ends_0_3, s_X3_ends_0_5, s_X3_ends_0_7, s_X3_ends_0_10, s_X3_ends_0_11, s_X3_ends_0_12, s_X3_ends_0_15, s_X3_ends_0_16, s_X3_ends_0_19, s_X3_ends_0_22, s_X3_ends_0_23, s_X3_ends_0_26, s_X3_ends_0_27, s_X3_ends_0_30, s_X3_ends_0_31, s_X3_ends_0_32, s_X3_ends_0_33, s_X3_ends_0_34, s_X3_ends_0_37, s_X3_ends_0_40, s_X3_ends_0_41, ↓i_lt_t, ↓i_lt_f, ↓i_le_t, ↓i_le_f, ↓i_eq_t, ↓i_eq_f, ↓i_m1a, ↓i_m1b, ↓i_m1c, ↓i_m1d, ↓i_m1e, ↓i_m1f, c_lt, c_le, c_eq, if_pos, if_neg, bnd_some, Option.toList, List.nil_append, List.cons_append, c_add, m1_lt, m1_eq1, m1_eq2, m1_le, ret_1, ret_0, if_true, if_false, eq_self_iff, at_22, e, ↓if_pos h2, oneIf_0, shl0]
        exact q
  have q := lp 12 0 (by omega)
  simp (disch := omega) only [s_X3_ends_0_0, s_X3_ends_0_1, s_X3_ends_0_2, s_X3_ends_0_3, s_X3_ends_0_5, s_X3_ends_0_7, s_X3_ends_0_10, s_X3_ends_0_11, s_X3_ends_0_12, s_X3_ends_0_15, s_X3_ends_0_16, s_X3_ends_0_19, s_X3_ends_0_22, s_X3_ends_0_23, s_X3_ends_0_26, s_X3_ends_0_27, s_X3_ends_0_30, s_X3_ends_0_31, s_X3_ends_0_32, s_X3_ends_0_33, s_X3_ends_0_34, s_X3_ends_0_37, s_X3_ends_0_40, s_X3_ends_0_41, ↓i_lt_t, ↓i_lt_f, ↓i_le_t, ↓i_le_f, ↓i_eq_t, ↓i_eq_f, ↓i_m1a, ↓i_m1b, ↓i_m1c, ↓i_m1d, ↓i_m1e, ↓i_m1f, c_lt, c_le, c_eq, if_pos, if_neg, bnd_some, Option.toList, List.nil_append, List.cons_append, c_add, m1_lt, m1_eq1, m1_eq2, m1_le, ret_1, ret_0, if_true, if_false, eq_self_iff]
  exact q
