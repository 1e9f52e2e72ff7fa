/-! IMAGE, RESTORE, HOUSE -/
theorem take1 (sc : Nat × (Nat → Int32)) (I : Nat → Int32) (A : Nat → Nat → Int32) (Z : Int64) (k : Nat) (hk : k < 2) (h9 : I 9 = nI k) :
    ∃ g1 g2 g3 g4 g5 : Nat → Int32, rs sc 28 0 [some (.ref 11), some (.ref 5)] [] [] (hp I A Z) = some (none, hp (upd (upd (upd (upd I 10 (I 6)) 11 (I 7)) 12 (I 8)) 13 (nI k)) (setA (setA (setA (setA (setA A 12 g1) 13 g2) 14 g3) 15 g4) 16 g5) Z) ∧
      (∀ j, j < 3 → g1 j = A 6 j) ∧ (∀ j, j < 3 → g2 j = A 7 j) ∧ (∀ j, j < 3 → g3 j = A 8 j) ∧ (∀ j, j < 3 → g4 j = A 9 j) ∧ (∀ j, j < 8 → g5 j = A 10 j) := by
  obtain ⟨g1, c1, d1⟩ := cp_6_12 sc I A Z
  obtain ⟨g2, c2, d2⟩ := cp_7_13 sc I (setA A 12 g1) Z
  obtain ⟨g3, c3, d3⟩ := cp_8_14 sc I (setA (setA A 12 g1) 13 g2) Z
  obtain ⟨g4, c4, d4⟩ := cp_9_15 sc I (setA (setA (setA A 12 g1) 13 g2) 14 g3) Z
  obtain ⟨g5, c5, d5⟩ := cp_10_16 sc I (setA (setA (setA (setA A 12 g1) 13 g2) 14 g3) 15 g4) Z
  refine ⟨g1, g2, g3, g4, g5, ?_, d1, d2, d3, d4, d5⟩
  rcases (show k = 0 ∨ k = 1 by omega) with rfl | rfl <;> simp (disch := omega) only [s_X4_takeFrom_0_0, s_X4_takeFrom_0_1, s_X4_takeFrom_0_4, s_X4_takeFrom_0_5, s_X4_takeFrom_0_8, s_X4_takeFrom_0_11, s_X4_takeFrom_0_12, s_X4_takeFrom_0_15, s_X4_takeFrom_0_16, s_X4_takeFrom_0_19, s_X4_takeFrom_0_22, s_X4_takeFrom_0_23, s_X4_takeFrom_0_26, s_X4_takeFrom_0_27, s_X4_takeFrom_0_30, s_X4_takeFrom_0_33, s_X4_takeFrom_0_34, s_X4_takeFrom_0_37, s_X4_takeFrom_0_38, s_X4_takeFrom_0_41, s_X4_takeFrom_0_44, s_X4_takeFrom_0_45, s_X4_takeFrom_0_48, s_X4_takeFrom_0_49, s_X4_takeFrom_0_52, s_X4_takeFrom_0_55, s_X4_takeFrom_0_56, s_X4_takeFrom_0_57, s_X4_takeFrom_0_60, s_X4_takeFrom_0_63, s_X4_takeFrom_0_64, s_X4_takeFrom_0_65, s_X4_takeFrom_0_68, s_X4_takeFrom_0_71, s_X4_takeFrom_0_72, s_X4_takeFrom_0_73, s_X4_takeFrom_0_76, s_X4_takeFrom_0_79, s_X4_takeFrom_0_80, s_X4_takeFrom_0_81, s_X4_takeFrom_0_87, s_X4_takeFrom_0_84_b0, s_X4_takeFrom_0_84_b1, ↓i_lt_t, ↓i_lt_f, ↓i_le_t, ↓i_le_f, ↓i_eq_t, ↓i_eq_f, ↓i_m1a, ↓i_m1b, ↓i_m1c, ↓i_m1d, ↓i_m1e, ↓i_m1f, c_lt, c_le, c_eq, if_pos, if_neg, bnd_some, Option.toList, List.nil_append, List.cons_append, c_add, m1_lt, m1_eq1, m1_eq2, m1_le, ret_1, ret_0, if_true, if_false, eq_self_iff, c1, c2, c3, c4, c5, pk_us, pk_un, h9]
theorem take2 (sc : Nat × (Nat → Int32)) (I : Nat → Int32) (A : Nat → Nat → Int32) (Z : Int64) (k : Nat) (hk : k < 2) (h9 : I 13 = nI k) :
    ∃ g1 g2 g3 g4 g5 : Nat → Int32, rs sc 28 0 [some (.ref 5), some (.ref 11)] [] [] (hp I A Z) = some (none, hp (upd (upd (upd (upd I 6 (I 10)) 7 (I 11)) 8 (I 12)) 9 (nI k)) (setA (setA (setA (setA (setA A 6 g1) 7 g2) 8 g3) 9 g4) 10 g5) Z) ∧
      (∀ j, j < 3 → g1 j = A 12 j) ∧ (∀ j, j < 3 → g2 j = A 13 j) ∧ (∀ j, j < 3 → g3 j = A 14 j) ∧ (∀ j, j < 3 → g4 j = A 15 j) ∧ (∀ j, j < 8 → g5 j = A 16 j) := by
  obtain ⟨g1, c1, d1⟩ := cp_12_6 sc I A Z
  obtain ⟨g2, c2, d2⟩ := cp_13_7 sc I (setA A 6 g1) Z
  obtain ⟨g3, c3, d3⟩ := cp_14_8 sc I (setA (setA A 6 g1) 7 g2) Z
  obtain ⟨g4, c4, d4⟩ := cp_15_9 sc I (setA (setA (setA A 6 g1) 7 g2) 8 g3) Z
  obtain ⟨g5, c5, d5⟩ := cp_16_10 sc I (setA (setA (setA (setA A 6 g1) 7 g2) 8 g3) 9 g4) Z
  refine ⟨g1, g2, g3, g4, g5, ?_, d1, d2, d3, d4, d5⟩
  rcases (show k = 0 ∨ k = 1 by omega) with rfl | rfl <;> simp (disch := omega) only [s_X4_takeFrom_1_0, s_X4_takeFrom_1_1, s_X4_takeFrom_1_4, s_X4_takeFrom_1_5, s_X4_takeFrom_1_8, s_X4_takeFrom_1_11, s_X4_takeFrom_1_12, s_X4_takeFrom_1_15, s_X4_takeFrom_1_16, s_X4_takeFrom_1_19, s_X4_takeFrom_1_22, s_X4_takeFrom_1_23, s_X4_takeFrom_1_26, s_X4_takeFrom_1_27, s_X4_takeFrom_1_30, s_X4_takeFrom_1_33, s_X4_takeFrom_1_34, s_X4_takeFrom_1_37, s_X4_takeFrom_1_38, s_X4_takeFrom_1_41, s_X4_takeFrom_1_44, s_X4_takeFrom_1_45, s_X4_takeFrom_1_48, s_X4_takeFrom_1_49, s_X4_takeFrom_1_52, s_X4_takeFrom_1_55, s_X4_takeFrom_1_56, s_X4_takeFrom_1_57, s_X4_takeFrom_1_60, s_X4_takeFrom_1_63, s_X4_takeFrom_1_64, s_X4_takeFrom_1_65, s_X4_takeFrom_1_68, s_X4_takeFrom_1_71, s_X4_takeFrom_1_72, s_X4_takeFrom_1_73, s_X4_takeFrom_1_76, s_X4_takeFrom_1_79, s_X4_takeFrom_1_80, s_X4_takeFrom_1_81, s_X4_takeFrom_1_87, s_X4_takeFrom_1_84_b0, s_X4_takeFrom_1_84_b1, ↓i_lt_t, ↓i_lt_f, ↓i_le_t, ↓i_le_f, ↓i_eq_t, ↓i_eq_f, ↓i_m1a, ↓i_m1b, ↓i_m1c, ↓i_m1d, ↓i_m1e, ↓i_m1f, c_lt, c_le, c_eq, if_pos, if_neg, bnd_some, Option.toList, List.nil_append, List.cons_append, c_add, m1_lt, m1_eq1, m1_eq2, m1_le, ret_1, ret_0, if_true, if_false, eq_self_iff, c1, c2, c3, c4, c5, pk_us, pk_un, h9]
theorem sa5 {A : Nat → Nat → Int32} {a b c d e p : Nat} {g1 g2 g3 g4 g5 : Nat → Int32} (h1 : p ≠ a) (h2 : p ≠ b) (h3 : p ≠ c) (h4 : p ≠ d) (h5 : p ≠ e) : setA (setA (setA (setA (setA A a g1) b g2) c g3) d g4) e g5 p = A p := by
  rw [sa_n h5, sa_n h4, sa_n h3, sa_n h2, sa_n h1]
theorem up4 {I : Nat → Int32} {a b c d j : Nat} {w x y z : Int32} (h1 : j ≠ a) (h2 : j ≠ b) (h3 : j ≠ c) (h4 : j ≠ d) : upd (upd (upd (upd I a w) b x) c y) d z j = I j := by
  rw [pk_un h4, pk_un h3, pk_un h2, pk_un h1]
theorem call_image (sc : Nat × (Nat → Int32)) (N : Nat) (U : St) (hW : WF N U) : Ok sc N U 69 [some (.ref 0)] 133 [some (.ref 26)] := by
  obtain ⟨h, d, s, ⟨n, k, m, q, cc, cw, pc, pe, lt⟩, np, cs, T, R, b, K⟩ := U
  have h01 : h = 0 ∨ h = 1 := by have := hW.1; omega
  rcases h01 with rfl | rfl
  · refine ⟨-103, _, hW.up, TX.eq fun I A Z hX => ?_, TM.eq fun I A Z hX => ?_⟩
    · simp (disch := omega) only [s_X7_image_0_0, s_X7_image_0_1, s_X7_image_0_4, s_X7_image_0_7, s_X7_image_0_10, s_X7_image_0_12, s_X7_image_0_13, s_X7_image_0_14, s_X7_image_0_17, s_X7_image_0_18, s_X7_image_0_21, s_X7_image_0_24, s_X7_image_0_25, s_X7_image_0_26, s_X7_image_0_29, s_X7_image_0_30, s_X7_image_0_33, s_X7_image_0_36, ↓i_lt_t, ↓i_lt_f, ↓i_le_t, ↓i_le_f, ↓i_eq_t, ↓i_eq_f, ↓i_m1a, ↓i_m1b, ↓i_m1c, ↓i_m1d, ↓i_m1e, ↓i_m1f, c_lt, c_le, c_eq, if_pos, if_neg, bnd_some, Option.toList, List.nil_append, List.cons_append, c_add, m1_lt, m1_eq1, m1_eq2, m1_le, ret_1, ret_0, if_true, if_false, eq_self_iff, (hX.2.1 rfl).1]
    · simp (disch := omega) only [s_X8_image_0_0, s_X8_image_0_1, s_X8_image_0_4, s_X8_image_0_7, s_X8_image_0_9, s_X8_image_0_10, s_X8_image_0_11, s_X8_image_0_14, s_X8_image_0_15, s_X8_image_0_18, s_X8_image_0_21, s_X8_image_0_22, s_X8_image_0_25, s_X8_image_0_26, s_X8_image_0_29, s_X8_image_0_32, s_X8_image_0_33, s_X8_image_0_36, s_X8_image_0_37, s_X8_image_0_40, s_X8_image_0_43, s_X8_image_0_44, s_X8_image_0_45, s_X8_image_0_48, s_X8_image_0_51, s_X8_image_0_52, s_X8_image_0_53, s_X8_image_0_56, s_X8_image_0_59, s_X8_image_0_60, s_X8_image_0_61, s_X8_image_0_64, s_X8_image_0_67, s_X8_image_0_68, s_X8_image_0_69, s_X8_image_0_72, s_X8_image_0_75, s_X8_image_0_76, s_X8_image_0_77, s_X8_image_0_80, s_X8_image_0_83, s_X8_image_0_84, s_X8_image_0_87, ↓i_lt_t, ↓i_lt_f, ↓i_le_t, ↓i_le_f, ↓i_eq_t, ↓i_eq_f, ↓i_m1a, ↓i_m1b, ↓i_m1c, ↓i_m1d, ↓i_m1e, ↓i_m1f, c_lt, c_le, c_eq, if_pos, if_neg, bnd_some, Option.toList, List.nil_append, List.cons_append, c_add, m1_lt, m1_eq1, m1_eq2, m1_le, ret_1, ret_0, if_true, if_false, eq_self_iff, mLacks sc I A Z 0 (hX.2.1 rfl)]
  refine ⟨seF pe m, (1, d, s, (n, k, m, q, cc, cw, pc, pe, lt), np, cs, T, R, 1, (n, k, m, q, cc, cw, pc, pe, lt)), And.intro (by decide) (And.intro (fun e => absurd e (by decide)) (And.intro hW.up.2.2.1 (And.intro hW.up.2.2.2.1 (by decide)))), fun I A Z hX => ?_, fun I A Z hX => ?_⟩
  · obtain ⟨f1, f2, ⟨hC, hP, hL⟩, f4, f5, f6, f7, f8⟩ := hX
    obtain ⟨c1, c2, c3, c4, c5⟩ := id hC
    obtain ⟨p1, p2, p3⟩ := id hP
    obtain ⟨l1, l2, l3⟩ := id hL
    obtain ⟨g1, g2, g3, g4, g5, t1, t2, t3, t4, t5, t6⟩ := take1 sc I A Z k c4 c3
    have hP' : XP m pc pe (upd (upd (upd (upd (upd I 10 (I 6)) 11 (I 7)) 12 (I 8)) 13 (nI k)) 0 (nI 1)) (setA (setA (setA (setA (setA A 12 g1) 13 g2) 14 g3) 15 g4) 16 g5) := hP.fr rfl rfl rfl
    refine ⟨upd (upd (upd (upd (upd I 10 (I 6)) 11 (I 7)) 12 (I 8)) 13 (nI k)) 0 (nI 1), setA (setA (setA (setA (setA A 12 g1) 13 g2) 14 g3) 15 g4) 16 g5, ?_, And.intro (fun e => (f1 e).fr rfl rfl rfl) (And.intro f2 (And.intro (And.intro (hC.fr rfl rfl rfl rfl) (And.intro hP' (hL.fr rfl rfl))) (And.intro (f4.fr rfl rfl) (And.intro f5 (And.intro f6 (And.intro rfl (fun _ => And.intro ⟨c1, c2, rfl, c4, fun j hj => ?_⟩ (And.intro ⟨p1, p2, fun j hj => ?_⟩ ⟨l1, l2, fun j hj => ?_⟩)))))))), fun i a b => (pk_un (by omega)).trans (up4 (by omega) (by omega) (by omega) (by omega)), fun p a b => sa5 (by omega) (by omega) (by omega) (by omega) (by omega)⟩
    · have g4' := (f1 rfl).1
      simp (disch := omega) only [s_X7_image_0_0, s_X7_image_0_1, s_X7_image_0_4, s_X7_image_0_7, s_X7_image_0_10, s_X7_image_0_12, s_X7_image_0_13, s_X7_image_0_14, s_X7_image_0_17, s_X7_image_0_18, s_X7_image_0_21, s_X7_image_0_24, s_X7_image_0_25, s_X7_image_0_26, s_X7_image_0_29, s_X7_image_0_30, s_X7_image_0_33, s_X7_image_0_36, ↓i_lt_t, ↓i_lt_f, ↓i_le_t, ↓i_le_f, ↓i_eq_t, ↓i_eq_f, ↓i_m1a, ↓i_m1b, ↓i_m1c, ↓i_m1d, ↓i_m1e, ↓i_m1f, c_lt, c_le, c_eq, if_pos, if_neg, bnd_some, Option.toList, List.nil_append, List.cons_append, c_add, m1_lt, m1_eq1, m1_eq2, m1_le, ret_1, ret_0, if_true, if_false, eq_self_iff, g4', t1, allE_ok sc _ _ Z m pc pe hP']
    · obtain ⟨a1, a2, a3, a4⟩ := c5 j hj
      exact ⟨a1, a2, (t2 j (by omega)).trans a3, (t3 j (by omega)).trans a4⟩
    · obtain ⟨a1, a2, a3⟩ := p3 j hj
      exact ⟨a1, (t4 j (by omega)).trans a2, (t5 j (by omega)).trans a3⟩
    · exact (t6 j (by omega)).trans (l3 j hj)
  · obtain ⟨f1, f2, ⟨hC, hP, hL, h21⟩, f4, f5, f6, f7, f8⟩ := hX
    obtain ⟨c1, c2, c5⟩ := id hC
    obtain ⟨p1, p2, p3⟩ := id hP
    obtain ⟨l1, l2, l3⟩ := id hL
    obtain ⟨g20, g21, gd1, gd9, gk, gs⟩ := id (f1 rfl)
    obtain ⟨g1, t1, t2⟩ := mcp_29_37 sc I A Z
    obtain ⟨g2, t3, t4⟩ := mcp_30_38 sc I (setA A 37 g1) Z
    obtain ⟨g3, t5, t6⟩ := mcp_33_39 sc I (setA (setA A 37 g1) 38 g2) Z
    have hP' : MP m pc pe (upd (upd (upd (upd (upd I 32 (I 21)) 33 (I 26)) 34 (I 27)) 35 (I 29)) 31 (I 22)) (setA (setA (setA A 37 g1) 38 g2) 39 g3) := hP.fr rfl rfl
    refine ⟨upd (upd (upd (upd (upd I 32 (I 21)) 33 (I 26)) 34 (I 27)) 35 (I 29)) 31 (I 22), setA (setA (setA A 37 g1) 38 g2) 39 g3, Z, ?_, And.intro (fun e => (f1 e).fr rfl rfl (fun _ _ => rfl)) (And.intro f2 (And.intro (And.intro (hC.fr rfl rfl) (And.intro hP' (And.intro (hL.fr rfl rfl) h21))) (And.intro (f4.fr rfl rfl) (And.intro f5 (And.intro f6 (And.intro (fun _ => And.intro f6 (And.intro ⟨c1, c2, fun j hj => ?_⟩ (And.intro ⟨p1, p2, fun j hj => ?_⟩ (And.intro ⟨l1, l2, fun j hj => ?_⟩ (And.intro h21 gk))))) (fun e => absurd e (by decide)))))))), fun i a b => (pk_un (by omega)).trans (up4 (by omega) (by omega) (by omega) (by omega)), fun p a b => (sa_n (by omega)).trans ((sa_n (by omega)).trans (sa_n (by omega)))⟩
    · simp (disch := omega) only [s_X8_image_0_0, s_X8_image_0_1, s_X8_image_0_4, s_X8_image_0_7, s_X8_image_0_9, s_X8_image_0_10, s_X8_image_0_11, s_X8_image_0_14, s_X8_image_0_15, s_X8_image_0_18, s_X8_image_0_21, s_X8_image_0_22, s_X8_image_0_25, s_X8_image_0_26, s_X8_image_0_29, s_X8_image_0_32, s_X8_image_0_33, s_X8_image_0_36, s_X8_image_0_37, s_X8_image_0_40, s_X8_image_0_43, s_X8_image_0_44, s_X8_image_0_45, s_X8_image_0_48, s_X8_image_0_51, s_X8_image_0_52, s_X8_image_0_53, s_X8_image_0_56, s_X8_image_0_59, s_X8_image_0_60, s_X8_image_0_61, s_X8_image_0_64, s_X8_image_0_67, s_X8_image_0_68, s_X8_image_0_69, s_X8_image_0_72, s_X8_image_0_75, s_X8_image_0_76, s_X8_image_0_77, s_X8_image_0_80, s_X8_image_0_83, s_X8_image_0_84, s_X8_image_0_87, ↓i_lt_t, ↓i_lt_f, ↓i_le_t, ↓i_le_f, ↓i_eq_t, ↓i_eq_f, ↓i_m1a, ↓i_m1b, ↓i_m1c, ↓i_m1d, ↓i_m1e, ↓i_m1f, c_lt, c_le, c_eq, if_pos, if_neg, bnd_some, Option.toList, List.nil_append, List.cons_append, c_add, m1_lt, m1_eq1, m1_eq2, m1_le, ret_1, ret_0, if_true, if_false, eq_self_iff, mLacks sc I A Z d g20, t1, t3, t5, pk_us, pk_un, mAllE_ok sc _ _ Z m pc pe hP']
    · obtain ⟨a1, a2, a3, a4⟩ := c5 j hj
      exact ⟨a1, a2, (t2 (2 * j) (by omega)).trans a3, (t2 (2 * j + 1) (by omega)).trans a4⟩
    · obtain ⟨a1, a2, a3⟩ := p3 j hj
      exact ⟨a1, (t4 (2 * j) (by omega)).trans a2, (t4 (2 * j + 1) (by omega)).trans a3⟩
    · exact (t6 j (by omega)).trans (l3 j hj)
theorem call_restore (sc : Nat × (Nat → Int32)) (N : Nat) (hN : N < 1000000) (U : St) (hW : WF N U) : Ok sc N U 70 [some (.ref 0)] 134 [some (.ref 26)] := by
  obtain ⟨h, d, s, S, np, cs, T, R, b, ⟨n, k, m, q, cc, cw, pc, pe, lt⟩⟩ := U
  have hR : R ≤ N := hW.2.2.2.1
  have b01 : b = 0 ∨ b = 1 := by have := hW.2.2.2.2; omega
  rcases b01 with rfl | rfl
  · refine ⟨-103, _, hW.up, TX.eq fun I A Z hX => ?_, TM.eq fun I A Z hX => ?_⟩
    · simp (disch := omega) only [s_X7_restore_0_0, s_X7_restore_0_1, s_X7_restore_0_4, s_X7_restore_0_7, s_X7_restore_0_9, s_X7_restore_0_10, s_X7_restore_0_11, s_X7_restore_0_14, s_X7_restore_0_15, s_X7_restore_0_18, s_X7_restore_0_21, s_X7_restore_0_22, s_X7_restore_0_25, s_X7_restore_0_28, ↓i_lt_t, ↓i_lt_f, ↓i_le_t, ↓i_le_f, ↓i_eq_t, ↓i_eq_f, ↓i_m1a, ↓i_m1b, ↓i_m1c, ↓i_m1d, ↓i_m1e, ↓i_m1f, c_lt, c_le, c_eq, if_pos, if_neg, bnd_some, Option.toList, List.nil_append, List.cons_append, c_add, m1_lt, m1_eq1, m1_eq2, m1_le, ret_1, ret_0, if_true, if_false, eq_self_iff, hX.2.2.2.2.2.2.1]
    · have e22 := hX.2.2.2.2.2.1
      rcases hX.2.2.2.2.2.2.2 rfl with e | ⟨r, hr, e⟩ <;> simp (disch := omega) only [s_X8_restore_0_0, s_X8_restore_0_1, s_X8_restore_0_4, s_X8_restore_0_5, s_X8_restore_0_8, s_X8_restore_0_11, s_X8_restore_0_13, s_X8_restore_0_14, s_X8_restore_0_15, s_X8_restore_0_18, s_X8_restore_0_19, s_X8_restore_0_22, s_X8_restore_0_25, s_X8_restore_0_26, s_X8_restore_0_29, s_X8_restore_0_30, s_X8_restore_0_33, s_X8_restore_0_36, s_X8_restore_0_37, s_X8_restore_0_40, s_X8_restore_0_41, s_X8_restore_0_44, s_X8_restore_0_47, s_X8_restore_0_48, s_X8_restore_0_49, s_X8_restore_0_52, s_X8_restore_0_55, s_X8_restore_0_56, s_X8_restore_0_57, s_X8_restore_0_60, s_X8_restore_0_63, s_X8_restore_0_64, s_X8_restore_0_65, s_X8_restore_0_68, s_X8_restore_0_71, s_X8_restore_0_72, s_X8_restore_0_73, s_X8_restore_0_76, s_X8_restore_0_79, s_X8_restore_0_80, s_X8_restore_0_83, ↓i_lt_t, ↓i_lt_f, ↓i_le_t, ↓i_le_f, ↓i_eq_t, ↓i_eq_f, ↓i_m1a, ↓i_m1b, ↓i_m1c, ↓i_m1d, ↓i_m1e, ↓i_m1f, c_lt, c_le, c_eq, if_pos, if_neg, bnd_some, Option.toList, List.nil_append, List.cons_append, c_add, m1_lt, m1_eq1, m1_eq2, m1_le, ret_1, ret_0, if_true, if_false, eq_self_iff, e, e22]
  have h1 : h = 1 := by
    have a := hW.1
    have b := hW.2.1
    rcases (show h = 0 ∨ h = 1 by omega) with e | e
    · exact absurd (b e).2.2 (by decide)
    · exact e
  subst h1
  refine ⟨seF pe m, (1, d, s, (n, k, m, q, cc, cw, pc, pe, lt), np, cs, T, R, 1, (n, k, m, q, cc, cw, pc, pe, lt)), And.intro (by decide) (And.intro (fun e => absurd e (by decide)) hW.up.2.2), fun I A Z hX => ?_, fun I A Z hX => ?_⟩
  · have hb := hX.2.2.2.2.2.2.1
    obtain ⟨hC, hP, hL⟩ := hX.2.2.2.2.2.2.2 rfl
    obtain ⟨c1, c2, c3, c4, c5⟩ := id hC
    obtain ⟨p1, p2, p3⟩ := id hP
    obtain ⟨l1, l2, l3⟩ := id hL
    obtain ⟨g1, g2, g3, g4, g5, t1, t2, t3, t4, t5, t6⟩ := take2 sc I A Z k c4 c3
    have hP' : XP m pc pe (upd (upd (upd (upd I 6 (I 10)) 7 (I 11)) 8 (I 12)) 9 (nI k)) (setA (setA (setA (setA (setA A 6 g1) 7 g2) 8 g3) 9 g4) 10 g5) := ⟨p1, p2, fun j hj => by
      obtain ⟨a1, a2, a3⟩ := p3 j hj
      exact ⟨a1, (t4 j (by omega)).trans a2, (t5 j (by omega)).trans a3⟩⟩
    refine ⟨upd (upd (upd (upd I 6 (I 10)) 7 (I 11)) 8 (I 12)) 9 (nI k), setA (setA (setA (setA (setA A 6 g1) 7 g2) 8 g3) 9 g4) 10 g5, ?_, hX.sn (fun i a => up4 (by omega) (by omega) (by omega) (by omega)) (fun p a => sa5 (by omega) (by omega) (by omega) (by omega) (by omega)) (And.intro ⟨c1, c2, rfl, c4, fun j hj => ?_⟩ (And.intro hP' ⟨l1, l2, fun j hj => ?_⟩)), fun i a b => up4 (by omega) (by omega) (by omega) (by omega), fun p a b => sa5 (by omega) (by omega) (by omega) (by omega) (by omega)⟩
    · simp (disch := omega) only [s_X7_restore_0_0, s_X7_restore_0_1, s_X7_restore_0_4, s_X7_restore_0_7, s_X7_restore_0_9, s_X7_restore_0_10, s_X7_restore_0_11, s_X7_restore_0_14, s_X7_restore_0_15, s_X7_restore_0_18, s_X7_restore_0_21, s_X7_restore_0_22, s_X7_restore_0_25, s_X7_restore_0_28, ↓i_lt_t, ↓i_lt_f, ↓i_le_t, ↓i_le_f, ↓i_eq_t, ↓i_eq_f, ↓i_m1a, ↓i_m1b, ↓i_m1c, ↓i_m1d, ↓i_m1e, ↓i_m1f, c_lt, c_le, c_eq, if_pos, if_neg, bnd_some, Option.toList, List.nil_append, List.cons_append, c_add, m1_lt, m1_eq1, m1_eq2, m1_le, ret_1, ret_0, if_true, if_false, eq_self_iff, hb, t1, allE_ok sc _ _ Z m pc pe hP']
    · obtain ⟨a1, a2, a3, a4⟩ := c5 j hj
      exact ⟨a1, a2, (t2 j (by omega)).trans a3, (t3 j (by omega)).trans a4⟩
    · exact (t6 j (by omega)).trans (l3 j hj)
  · have e22 := hX.2.2.2.2.2.1
    obtain ⟨e31, hC, hP, hL, h32, hk2⟩ := hX.2.2.2.2.2.2.1 rfl
    obtain ⟨c1, c2, c5⟩ := id hC
    obtain ⟨p1, p2, p3⟩ := id hP
    obtain ⟨l1, l2, l3⟩ := id hL
    obtain ⟨g1, t1, t2⟩ := mcp_37_29 sc I A Z
    obtain ⟨g2, t3, t4⟩ := mcp_38_30 sc I (setA A 29 g1) Z
    obtain ⟨g3, t5, t6⟩ := mcp_39_33 sc I (setA (setA A 29 g1) 30 g2) Z
    have hP' : MP m pc pe (upd (upd (upd (upd I 21 (I 32)) 26 (I 33)) 27 (I 34)) 29 (I 35)) (setA (setA (setA A 29 g1) 30 g2) 33 g3) := ⟨p1, p2, fun j hj => by
      obtain ⟨a1, a2, a3⟩ := p3 j hj
      exact ⟨a1, (t4 (2 * j) (by omega)).trans a2, (t4 (2 * j + 1) (by omega)).trans a3⟩⟩
    refine ⟨upd (upd (upd (upd I 21 (I 32)) 26 (I 33)) 27 (I 34)) 29 (I 35), setA (setA (setA A 29 g1) 30 g2) 33 g3, Z, ?_, hX.sn (fun i a b c d e f g => up4 (by omega) (by omega) (by omega) (by omega)) (fun p a b c => (sa_n (by omega)).trans ((sa_n (by omega)).trans (sa_n (by omega)))) (fun _ => ⟨h32, hk2⟩) (And.intro ⟨c1, c2, fun j hj => ?_⟩ (And.intro hP' (And.intro ⟨l1, l2, fun j hj => ?_⟩ h32))), fun i a b => up4 (by omega) (by omega) (by omega) (by omega), fun p a b => (sa_n (by omega)).trans ((sa_n (by omega)).trans (sa_n (by omega)))⟩
    · simp (disch := omega) only [s_X8_restore_0_0, s_X8_restore_0_1, s_X8_restore_0_4, s_X8_restore_0_5, s_X8_restore_0_8, s_X8_restore_0_11, s_X8_restore_0_13, s_X8_restore_0_14, s_X8_restore_0_15, s_X8_restore_0_18, s_X8_restore_0_19, s_X8_restore_0_22, s_X8_restore_0_25, s_X8_restore_0_26, s_X8_restore_0_29, s_X8_restore_0_30, s_X8_restore_0_33, s_X8_restore_0_36, s_X8_restore_0_37, s_X8_restore_0_40, s_X8_restore_0_41, s_X8_restore_0_44, s_X8_restore_0_47, s_X8_restore_0_48, s_X8_restore_0_49, s_X8_restore_0_52, s_X8_restore_0_55, s_X8_restore_0_56, s_X8_restore_0_57, s_X8_restore_0_60, s_X8_restore_0_63, s_X8_restore_0_64, s_X8_restore_0_65, s_X8_restore_0_68, s_X8_restore_0_71, s_X8_restore_0_72, s_X8_restore_0_73, s_X8_restore_0_76, s_X8_restore_0_79, s_X8_restore_0_80, s_X8_restore_0_83, ↓i_lt_t, ↓i_lt_f, ↓i_le_t, ↓i_le_f, ↓i_eq_t, ↓i_eq_f, ↓i_m1a, ↓i_m1b, ↓i_m1c, ↓i_m1d, ↓i_m1e, ↓i_m1f, c_lt, c_le, c_eq, if_pos, if_neg, bnd_some, Option.toList, List.nil_append, List.cons_append, c_add, m1_lt, m1_eq1, m1_eq2, m1_le, ret_1, ret_0, if_true, if_false, eq_self_iff, e31, e22, t1, t3, t5, pk_us, pk_un, mAllE_ok sc _ _ Z m pc pe hP']
    · obtain ⟨a1, a2, a3, a4⟩ := c5 j hj
      exact ⟨a1, a2, (t2 (2 * j) (by omega)).trans a3, (t2 (2 * j + 1) (by omega)).trans a4⟩
    · exact (t6 j (by omega)).trans (l3 j hj)
theorem ffl_le (cs : Nat → Nat) : ∀ f p, ffl cs f p ≤ p + f
  | 0, p => Nat.le_refl _
  | f + 1, p => by
    have := ffl_le cs f (p + 1)
    rw [ffl]
    split <;> omega
theorem ffl_all (cs : Nat → Nat) : ∀ f p, ffl cs f p = p + f → ∀ j, p ≤ j → j < p + f → gd j (cs j) = 1
  | 0, p => fun _ j h1 h2 => by omega
  | f + 1, p => fun h j h1 h2 => by
    rw [ffl] at h
    split at h
    · rename_i h3
      by_cases e : j = p
      · rw [e]; exact h3
      · exact ffl_all cs f (p + 1) (by omega) j (by omega) (by omega)
    · omega
theorem good_sign {cs : Nat → Nat} (h : ffl cs 16 0 = 16) (c : Nat) (hc : c < 12) : sgo (cs (c + c / 4)) < 7 := by
  have hg := ffl_all cs 16 0 (by omega) (c + c / 4) (by omega) (by omega)
  unfold gd at hg
  rw [if_neg (by omega), if_neg (by omega), if_neg (by omega), if_neg (by omega)] at hg
  rcases sgo_lt (cs (c + c / 4)) with e | e
  · rw [if_pos e] at hg; exact absurd hg (by decide)
  · exact e
theorem good_depth {cs : Nat → Nat} (h : ffl cs 16 0 = 16) : 49 ≤ cs 15 ∧ cs 15 ≤ 57 := by
  have hg := ffl_all cs 16 0 (by omega) 15 (by omega) (by omega)
  unfold gd at hg
  rw [if_neg (by omega), if_pos rfl] at hg
  by_cases e : 49 ≤ cs 15 ∧ cs 15 ≤ 57
  · exact e
  · rw [if_neg e] at hg; exact absurd hg (by decide)
theorem tI_lt {n : Nat} (h : n < 7) : tI n = nI n := if_neg (by omega)
theorem pSignAt (sc : Nat × (Nat → Int32)) (I : Nat → Int32) (A : Nat → Nat → Int32) (Z : Int64) (cs : Nat → Nat) (h : XPg 16 cs I A) (hf : ffl cs 16 0 = 16) (c : Nat) (hc : c < 12) : rs sc 18 0 [some (.ref 1), some (.int (nI c))] [] [] (hp I A Z) = some (some (.int (nI (sgo (cs (c + c / 4))))), hp I A Z) := by
  obtain ⟨h1, h2, h3⟩ := h
  obtain ⟨a1, a2⟩ := h3 (c + c / 4) (by omega)
  have ed : nI c / nI 4 = nI (c / 4) := pk_div (by omega) (by decide) (by decide)
  have et := tI_lt (good_sign hf c hc)
  simp (disch := omega) only [s_X2_signAt_0_0, s_X2_signAt_0_1, s_X2_signAt_0_4, s_X2_signAt_0_5, s_X2_signAt_0_6, s_X2_signAt_0_7, s_X2_signAt_0_8, s_X2_signAt_0_9, s_X2_signAt_0_12, s_X2_signAt_0_15, ↓i_lt_t, ↓i_lt_f, ↓i_le_t, ↓i_le_f, ↓i_eq_t, ↓i_eq_f, ↓i_m1a, ↓i_m1b, ↓i_m1c, ↓i_m1d, ↓i_m1e, ↓i_m1f, c_lt, c_le, c_eq, if_pos, if_neg, bnd_some, Option.toList, List.nil_append, List.cons_append, c_add, m1_lt, m1_eq1, m1_eq2, m1_le, ret_1, ret_0, if_true, if_false, eq_self_iff, ed, at_2, a2, signOf_ok, et]
theorem pDepth (sc : Nat × (Nat → Int32)) (I : Nat → Int32) (A : Nat → Nat → Int32) (Z : Int64) (cs : Nat → Nat) (h : XPg 16 cs I A) (hf : ffl cs 16 0 = 16) : rs sc 19 0 [some (.ref 1)] [] [] (hp I A Z) = some (some (.int (nI (cs 15 - 48))), hp I A Z) := by
  obtain ⟨h1, h2, h3⟩ := h
  obtain ⟨a1, a2⟩ := h3 15 (by omega)
  have hg := good_depth hf
  simp (disch := omega) only [s_X2_depth_0_0, s_X2_depth_0_1, s_X2_depth_0_4, s_X2_depth_0_6, s_X2_depth_0_9, s_X2_depth_0_11, s_X2_depth_0_12, ↓i_lt_t, ↓i_lt_f, ↓i_le_t, ↓i_le_f, ↓i_eq_t, ↓i_eq_f, ↓i_m1a, ↓i_m1b, ↓i_m1c, ↓i_m1d, ↓i_m1e, ↓i_m1f, c_lt, c_le, c_eq, if_pos, if_neg, bnd_some, Option.toList, List.nil_append, List.cons_append, c_add, m1_lt, m1_eq1, m1_eq2, m1_le, ret_1, ret_0, if_true, if_false, eq_self_iff, at_2, a2, c_sub]
theorem read_ok (sc : Nat × (Nat → Int32)) (I : Nat → Int32) (A : Nat → Nat → Int32) (Z : Int64) (cs : Nat → Nat) (h : XPg 16 cs I A) (hf : ffl cs 16 0 = 16) :
    ∃ g : Nat → Int32, rs sc 4 0 [some (.ref 3), some (.ref 1), none] [] [] (hp I A Z) = some (none, hp (upd (upd I 5 (nI (cs 15 - 48))) 4 (nI 1)) (setA A 4 g) Z) ∧ ∀ c, c < 12 → g c = nI (sgo (cs (c + c / 4))) := by
  have lp : ∀ (f j : Nat) (g : Nat → Int32), j + f = 12 → (∀ i, i < j → g i = nI (sgo (cs (i + i / 4)))) → ∃ g' : Nat → Int32, rs sc 4 2 [some (.ref 3), some (.ref 1), some (.int (nI j))] [] [] (hp I (setA A 4 g) Z) = some (none, hp (upd (upd I 5 (nI (cs 15 - 48))) 4 (nI 1)) (setA A 4 g') Z) ∧ ∀ i, i < 12 → g' i = nI (sgo (cs (i + i / 4))) := by
    intro f
    induction f with
    | zero =>
      intro j g hj hg
      have e : j = 12 := by omega
      subst e
      refine ⟨g, ?_, hg⟩
      simp (disch := omega) only [s_X1_read_0_0, s_X1_read_0_1, s_X1_read_0_2, s_X1_read_0_3, s_X1_read_0_5, s_X1_read_0_8, s_X1_read_0_9, s_X1_read_0_12, s_X1_read_0_13, s_X1_read_0_14, s_X1_read_0_15, s_X1_read_0_18, s_X1_read_0_21, s_X1_read_0_24, s_X1_read_0_27, s_X1_read_0_28, s_X1_read_0_29, s_X1_read_0_32, s_X1_read_0_35, s_X1_read_0_36, s_X1_read_0_37, s_X1_read_0_40, ↓i_lt_t, ↓i_lt_f, ↓i_le_t, ↓i_le_f, ↓i_eq_t, ↓i_eq_f, ↓i_m1a, ↓i_m1b, ↓i_m1c, ↓i_m1d, ↓i_m1e, ↓i_m1f, c_lt, c_le, c_eq, if_pos, if_neg, bnd_some, Option.toList, List.nil_append, List.cons_append, c_add, m1_lt, m1_eq1, m1_eq2, m1_le, ret_1, ret_0, if_true, if_false, eq_self_iff, pDepth sc I (setA A 4 g) Z cs (h.fr rfl rfl) hf]
    | succ f ih =>
      intro j g hj hg
      obtain ⟨g', q1, q2⟩ := ih (j + 1) (upd g j (nI (sgo (cs (j + j / 4))))) (by omega) (fun i hi => by
        by_cases e : i = j
        · subst e; exact pk_us
        · rw [pk_un e]; exact hg i (by omega))
      refine ⟨g', ?_, q2⟩
      rw [s_X1_read_0_2]
      simp (disch := omega) only [s_X1_read_0_0, s_X1_read_0_1, s_X1_read_0_3, s_X1_read_0_5, s_X1_read_0_8, s_X1_read_0_9, s_X1_read_0_12, s_X1_read_0_13, s_X1_read_0_14, s_X1_read_0_15, s_X1_read_0_18, s_X1_read_0_21, s_X1_read_0_24, s_X1_read_0_27, s_X1_read_0_28, s_X1_read_0_29, s_X1_read_0_32, s_X1_read_0_35, s_X1_read_0_36, s_X1_read_0_37, s_X1_read_0_40, ↓i_lt_t, ↓i_lt_f, ↓i_le_t, ↓i_le_f, ↓i_eq_t, ↓i_eq_f, ↓i_m1a, ↓i_m1b, ↓i_m1c, ↓i_m1d, ↓i_m1e, ↓i_m1f, c_lt, c_le, c_eq, if_pos, if_neg, bnd_some, Option.toList, List.nil_append, List.cons_append, c_add, m1_lt, m1_eq1, m1_eq2, m1_le, ret_1, ret_0, if_true, if_false, eq_self_iff, pSignAt sc I (setA A 4 g) Z cs (h.fr rfl rfl) hf, put_4, ua_sa]
      exact q1
  obtain ⟨g, q1, q2⟩ := lp 12 0 (A 4) (by omega) (fun i hi => by omega)
  rw [sa_id] at q1
  refine ⟨g, ?_, q2⟩
  simp (disch := omega) only [s_X1_read_0_0, s_X1_read_0_1, s_X1_read_0_3, s_X1_read_0_5, s_X1_read_0_8, s_X1_read_0_9, s_X1_read_0_12, s_X1_read_0_13, s_X1_read_0_14, s_X1_read_0_15, s_X1_read_0_18, s_X1_read_0_21, s_X1_read_0_24, s_X1_read_0_27, s_X1_read_0_28, s_X1_read_0_29, s_X1_read_0_32, s_X1_read_0_35, s_X1_read_0_36, s_X1_read_0_37, s_X1_read_0_40, ↓i_lt_t, ↓i_lt_f, ↓i_le_t, ↓i_le_f, ↓i_eq_t, ↓i_eq_f, ↓i_m1a, ↓i_m1b, ↓i_m1c, ↓i_m1d, ↓i_m1e, ↓i_m1f, c_lt, c_le, c_eq, if_pos, if_neg, bnd_some, Option.toList, List.nil_append, List.cons_append, c_add, m1_lt, m1_eq1, m1_eq2, m1_le, ret_1, ret_0, if_true, if_false, eq_self_iff]
  exact q1
theorem mRead_loop (sc : Nat × (Nat → Int32)) (I : Nat → Int32) (A : Nat → Nat → Int32) (Z : Int64) (cs : Nat → Nat) (h : MPg 16 cs I A) (hf : ffl cs 16 0 = 16) :
    ∃ g : Nat → Int32, rs sc 94 23 [some (.ref 26), some (.int (nI 0))] [] [] (hp I A Z) = rs sc 94 54 [some (.ref 26), some (.int (nI 12))] [] [] (hp I (setA A 28 g) Z) ∧ ∀ c, c < 12 → g c = nI (sgo (cs (c + c / 4))) := by
  have lp : ∀ (f j : Nat) (g : Nat → Int32), j + f = 12 → (∀ i, i < j → g i = nI (sgo (cs (i + i / 4)))) → ∃ g' : Nat → Int32, rs sc 94 23 [some (.ref 26), some (.int (nI j))] [] [] (hp I (setA A 28 g) Z) = rs sc 94 54 [some (.ref 26), some (.int (nI 12))] [] [] (hp I (setA A 28 g') Z) ∧ ∀ i, i < 12 → g' i = nI (sgo (cs (i + i / 4))) := by
    intro f
    induction f with
    | zero =>
      intro j g hj hg
      have e : j = 12 := by omega
      subst e
      refine ⟨g, ?_, hg⟩
      rw [s_X8_house_0_23]
      simp (disch := omega) only [s_X8_house_0_24, s_X8_house_0_26, ↓i_lt_t, ↓i_lt_f, ↓i_le_t, ↓i_le_f, ↓i_eq_t, ↓i_eq_f, ↓i_m1a, ↓i_m1b, ↓i_m1c, ↓i_m1d, ↓i_m1e, ↓i_m1f, c_lt, c_le, c_eq, if_pos, if_neg, bnd_some, Option.toList, List.nil_append, List.cons_append, c_add, m1_lt, m1_eq1, m1_eq2, m1_le, ret_1, ret_0, if_true, if_false, eq_self_iff]
    | succ f ih =>
      intro j g hj hg
      obtain ⟨g', q1, q2⟩ := ih (j + 1) (upd g j (nI (sgo (cs (j + j / 4))))) (by omega) (fun i hi => by
        by_cases e : i = j
        · subst e; exact pk_us
        · rw [pk_un e]; exact hg i (by omega))
      refine ⟨g', ?_, q2⟩
      obtain ⟨a1, a2⟩ := h.2.2 (j + j / 4) (by omega)
      have ed : nI j / nI 4 = nI (j / 4) := pk_div (by omega) (by decide) (by decide)
      have et := tI_lt (good_sign hf j (by omega))
      have a3 : setA A 28 g 27 (j + j / 4) = nI (cs (j + j / 4)) := a2
      rw [s_X8_house_0_23]
      simp (disch := omega) only [s_X8_house_0_0, s_X8_house_0_1, s_X8_house_0_4, s_X8_house_0_6, s_X8_house_0_9, s_X8_house_0_10, s_X8_house_0_13, s_X8_house_0_15, s_X8_house_0_18, s_X8_house_0_20, s_X8_house_0_21, s_X8_house_0_22, s_X8_house_0_24, s_X8_house_0_26, s_X8_house_0_29, s_X8_house_0_30, s_X8_house_0_33, s_X8_house_0_34, s_X8_house_0_35, s_X8_house_0_38, s_X8_house_0_39, s_X8_house_0_40, s_X8_house_0_41, s_X8_house_0_42, s_X8_house_0_43, s_X8_house_0_44, s_X8_house_0_47, s_X8_house_0_48, s_X8_house_0_51, s_X8_house_0_55, s_X8_house_0_56, s_X8_house_0_59, s_X8_house_0_61, s_X8_house_0_62, s_X8_house_0_64, s_X8_house_0_65, s_X8_house_0_68, s_X8_house_0_69, s_X8_house_0_70, s_X8_house_0_73, s_X8_house_0_74, s_X8_house_0_75, s_X8_house_0_78, s_X8_house_0_79, s_X8_house_0_80, s_X8_house_0_83, s_X8_house_0_84, s_X8_house_0_85, s_X8_house_0_88, s_X8_house_0_89, s_X8_house_0_90, s_X8_house_0_93, s_X8_house_0_94, s_X8_house_0_95, s_X8_house_0_98, s_X8_house_0_99, s_X8_house_0_100, s_X8_house_0_103, s_X8_house_0_104, s_X8_house_0_107, ↓i_lt_t, ↓i_lt_f, ↓i_le_t, ↓i_le_f, ↓i_eq_t, ↓i_eq_f, ↓i_m1a, ↓i_m1b, ↓i_m1c, ↓i_m1d, ↓i_m1e, ↓i_m1f, c_lt, c_le, c_eq, if_pos, if_neg, bnd_some, Option.toList, List.nil_append, List.cons_append, c_add, m1_lt, m1_eq1, m1_eq2, m1_le, ret_1, ret_0, if_true, if_false, eq_self_iff, ed, a3, mSignOf, et, ua_sa]
      exact q1
  obtain ⟨g, q1, q2⟩ := lp 12 0 (A 28) (by omega) (fun i hi => by omega)
  rw [sa_id] at q1
  exact ⟨g, q1, q2⟩
set_option maxHeartbeats 4000000 in
theorem call_house (sc : Nat × (Nat → Int32)) (N : Nat) (U : St) (hW : WF N U) : Ok sc N U 52 [some (.ref 0)] 94 [some (.ref 26), none] := by
  obtain ⟨h, d, s, ⟨n, k, m, q, cc, cw, pc, pe, lt⟩, np, cs, T, R, b, K⟩ := U
  by_cases h16 : np = 16 ∧ ffl cs 16 0 = 16
  case neg =>
    refine ⟨-103, _, hW.up, TX.eq fun I A Z hX => ?_, TM.eq fun I A Z hX => ?_⟩
    · have hp1 := hX.2.2.2.1.1
      have hp2 := hX.2.2.2.1.2.1
      by_cases e : np = 16
      · subst e
        have h2 : ¬ ffl cs 16 0 = 16 := fun q => h16 ⟨rfl, q⟩
        have hle := ffl_le cs 16 0
        simp (disch := omega) only [s_X7_house_0_0, s_X7_house_0_1, s_X7_house_0_4, s_X7_house_0_7, s_X7_house_0_10, s_X7_house_0_12, s_X7_house_0_13, s_X7_house_0_14, s_X7_house_0_17, s_X7_house_0_18, s_X7_house_0_21, s_X7_house_0_24, s_X7_house_0_25, s_X7_house_0_28, s_X7_house_0_31, s_X7_house_0_32, s_X7_house_0_35, s_X7_house_0_38, s_X7_house_0_39, s_X7_house_0_40, s_X7_house_0_43, s_X7_house_0_44, s_X7_house_0_45, s_X7_house_0_48, s_X7_house_0_49, s_X7_house_0_50, s_X7_house_0_53, s_X7_house_0_54, s_X7_house_0_57, s_X7_house_0_60, s_X2_isHouse_0_0, s_X2_isHouse_0_1, s_X2_isHouse_0_4, s_X2_isHouse_0_6, s_X2_isHouse_0_9, s_X2_isHouse_0_10, s_X2_isHouse_0_13, s_X2_isHouse_0_15, s_X2_isHouse_0_18, s_X2_isHouse_0_19, s_X2_isHouse_0_22, s_X2_isHouse_0_23_b0, s_X2_isHouse_0_23_b1, ↓i_lt_t, ↓i_lt_f, ↓i_le_t, ↓i_le_f, ↓i_eq_t, ↓i_eq_f, ↓i_m1a, ↓i_m1b, ↓i_m1c, ↓i_m1d, ↓i_m1e, ↓i_m1f, c_lt, c_le, c_eq, if_pos, if_neg, bnd_some, Option.toList, List.nil_append, List.cons_append, c_add, m1_lt, m1_eq1, m1_eq2, m1_le, ret_1, ret_0, if_true, if_false, eq_self_iff, hp1, firstFault_ok sc I A Z 16 cs hX.2.2.2.1]
      · simp (disch := omega) only [s_X7_house_0_0, s_X7_house_0_1, s_X7_house_0_4, s_X7_house_0_7, s_X7_house_0_10, s_X7_house_0_12, s_X7_house_0_13, s_X7_house_0_14, s_X7_house_0_17, s_X7_house_0_18, s_X7_house_0_21, s_X7_house_0_24, s_X7_house_0_25, s_X7_house_0_28, s_X7_house_0_31, s_X7_house_0_32, s_X7_house_0_35, s_X7_house_0_38, s_X7_house_0_39, s_X7_house_0_40, s_X7_house_0_43, s_X7_house_0_44, s_X7_house_0_45, s_X7_house_0_48, s_X7_house_0_49, s_X7_house_0_50, s_X7_house_0_53, s_X7_house_0_54, s_X7_house_0_57, s_X7_house_0_60, s_X2_isHouse_0_0, s_X2_isHouse_0_1, s_X2_isHouse_0_4, s_X2_isHouse_0_6, s_X2_isHouse_0_9, s_X2_isHouse_0_10, s_X2_isHouse_0_13, s_X2_isHouse_0_15, s_X2_isHouse_0_18, s_X2_isHouse_0_19, s_X2_isHouse_0_22, s_X2_isHouse_0_23_b0, s_X2_isHouse_0_23_b1, ↓i_lt_t, ↓i_lt_f, ↓i_le_t, ↓i_le_f, ↓i_eq_t, ↓i_eq_f, ↓i_m1a, ↓i_m1b, ↓i_m1c, ↓i_m1d, ↓i_m1e, ↓i_m1f, c_lt, c_le, c_eq, if_pos, if_neg, bnd_some, Option.toList, List.nil_append, List.cons_append, c_add, m1_lt, m1_eq1, m1_eq2, m1_le, ret_1, ret_0, if_true, if_false, eq_self_iff, hp1]
    · have hp1 := hX.2.2.2.1.1
      have hp2 := hX.2.2.2.1.2.1
      by_cases e : np = 16
      · subst e
        have h2 : ¬ ffl cs 16 0 = 16 := fun q => h16 ⟨rfl, q⟩
        have hle := ffl_le cs 16 0
        simp (disch := omega) only [s_X8_house_0_0, s_X8_house_0_1, s_X8_house_0_4, s_X8_house_0_6, s_X8_house_0_9, s_X8_house_0_10, s_X8_house_0_13, s_X8_house_0_15, s_X8_house_0_18, s_X8_house_0_20, s_X8_house_0_21, s_X8_house_0_22, s_X8_house_0_24, s_X8_house_0_26, s_X8_house_0_29, s_X8_house_0_30, s_X8_house_0_33, s_X8_house_0_34, s_X8_house_0_35, s_X8_house_0_38, s_X8_house_0_39, s_X8_house_0_40, s_X8_house_0_41, s_X8_house_0_42, s_X8_house_0_43, s_X8_house_0_44, s_X8_house_0_47, s_X8_house_0_48, s_X8_house_0_51, s_X8_house_0_55, s_X8_house_0_56, s_X8_house_0_59, s_X8_house_0_61, s_X8_house_0_62, s_X8_house_0_64, s_X8_house_0_65, s_X8_house_0_68, s_X8_house_0_69, s_X8_house_0_70, s_X8_house_0_73, s_X8_house_0_74, s_X8_house_0_75, s_X8_house_0_78, s_X8_house_0_79, s_X8_house_0_80, s_X8_house_0_83, s_X8_house_0_84, s_X8_house_0_85, s_X8_house_0_88, s_X8_house_0_89, s_X8_house_0_90, s_X8_house_0_93, s_X8_house_0_94, s_X8_house_0_95, s_X8_house_0_98, s_X8_house_0_99, s_X8_house_0_100, s_X8_house_0_103, s_X8_house_0_104, s_X8_house_0_107, ↓i_lt_t, ↓i_lt_f, ↓i_le_t, ↓i_le_f, ↓i_eq_t, ↓i_eq_f, ↓i_m1a, ↓i_m1b, ↓i_m1c, ↓i_m1d, ↓i_m1e, ↓i_m1f, c_lt, c_le, c_eq, if_pos, if_neg, bnd_some, Option.toList, List.nil_append, List.cons_append, c_add, m1_lt, m1_eq1, m1_eq2, m1_le, ret_1, ret_0, if_true, if_false, eq_self_iff, hp1, faultOf_ok sc I A Z 16 cs hX.2.2.2.1]
      · simp (disch := omega) only [s_X8_house_0_0, s_X8_house_0_1, s_X8_house_0_4, s_X8_house_0_6, s_X8_house_0_9, s_X8_house_0_10, s_X8_house_0_13, s_X8_house_0_15, s_X8_house_0_18, s_X8_house_0_20, s_X8_house_0_21, s_X8_house_0_22, s_X8_house_0_24, s_X8_house_0_26, s_X8_house_0_29, s_X8_house_0_30, s_X8_house_0_33, s_X8_house_0_34, s_X8_house_0_35, s_X8_house_0_38, s_X8_house_0_39, s_X8_house_0_40, s_X8_house_0_41, s_X8_house_0_42, s_X8_house_0_43, s_X8_house_0_44, s_X8_house_0_47, s_X8_house_0_48, s_X8_house_0_51, s_X8_house_0_55, s_X8_house_0_56, s_X8_house_0_59, s_X8_house_0_61, s_X8_house_0_62, s_X8_house_0_64, s_X8_house_0_65, s_X8_house_0_68, s_X8_house_0_69, s_X8_house_0_70, s_X8_house_0_73, s_X8_house_0_74, s_X8_house_0_75, s_X8_house_0_78, s_X8_house_0_79, s_X8_house_0_80, s_X8_house_0_83, s_X8_house_0_84, s_X8_house_0_85, s_X8_house_0_88, s_X8_house_0_89, s_X8_house_0_90, s_X8_house_0_93, s_X8_house_0_94, s_X8_house_0_95, s_X8_house_0_98, s_X8_house_0_99, s_X8_house_0_100, s_X8_house_0_103, s_X8_house_0_104, s_X8_house_0_107, ↓i_lt_t, ↓i_lt_f, ↓i_le_t, ↓i_le_f, ↓i_eq_t, ↓i_eq_f, ↓i_m1a, ↓i_m1b, ↓i_m1c, ↓i_m1d, ↓i_m1e, ↓i_m1f, c_lt, c_le, c_eq, if_pos, if_neg, bnd_some, Option.toList, List.nil_append, List.cons_append, c_add, m1_lt, m1_eq1, m1_eq2, m1_le, ret_1, ret_0, if_true, if_false, eq_self_iff, hp1]
  obtain ⟨rfl, hf⟩ := h16
  have hd := good_depth hf
  refine ⟨nI (flN (fun c => sgo (cs (c + c / 4))) 12), (1, cs 15 - 48, fun c => sgo (cs (c + c / 4)), (0, 0, 0, 0, cc, cw, pc, pe, lt), 0, cs, T, R + 1, 0, K), And.intro (by decide) (And.intro (fun e => absurd e (by decide)) (And.intro hW.2.2.1 (And.intro (Nat.succ_le_succ hW.2.2.2.1) (by decide)))), fun I A Z hX => ?_, fun I A Z hX => ?_⟩
  · obtain ⟨f1, f2, f3, f4, f5, f6, f7, f8⟩ := hX
    obtain ⟨g, q1, q2⟩ := read_ok sc I A Z cs f4 hf
    have hX' : XH (fun c => sgo (cs (c + c / 4))) (cs 15 - 48) (upd (upd (upd (upd (upd (upd (upd (upd (upd I 5 (nI (cs 15 - 48))) 4 (nI 1)) 3 (nI 0)) 6 (nI 0)) 7 (nI 0)) 8 (nI 0)) 9 (nI 0)) 0 (nI 0)) 1 (nI (R + 1))) (setA A 4 g) := ⟨rfl, rfl, by omega, by omega, fun c hc => ⟨q2 c hc, good_sign hf c hc⟩⟩
    refine ⟨_, _, ?_, And.intro (fun _ => hX') (And.intro (fun e => absurd e (by decide)) (And.intro (And.intro ⟨rfl, by decide, rfl, by decide, fun j hj => absurd hj (by omega)⟩ (And.intro ⟨rfl, by decide, fun j hj => absurd hj (by omega)⟩ ⟨rfl, by decide, fun j hj => absurd hj (by omega)⟩)) (And.intro ⟨rfl, by decide, fun j hj => absurd hj (by omega)⟩ (And.intro f5 (And.intro rfl (And.intro rfl (fun e => absurd e (by decide)))))))), fun i a b => ?_, fun p a b => sa_n (by omega)⟩
    · simp (disch := omega) only [s_X7_house_0_0, s_X7_house_0_1, s_X7_house_0_4, s_X7_house_0_7, s_X7_house_0_10, s_X7_house_0_12, s_X7_house_0_13, s_X7_house_0_14, s_X7_house_0_17, s_X7_house_0_18, s_X7_house_0_21, s_X7_house_0_24, s_X7_house_0_25, s_X7_house_0_28, s_X7_house_0_31, s_X7_house_0_32, s_X7_house_0_35, s_X7_house_0_38, s_X7_house_0_39, s_X7_house_0_40, s_X7_house_0_43, s_X7_house_0_44, s_X7_house_0_45, s_X7_house_0_48, s_X7_house_0_49, s_X7_house_0_50, s_X7_house_0_53, s_X7_house_0_54, s_X7_house_0_57, s_X7_house_0_60, s_X2_isHouse_0_0, s_X2_isHouse_0_1, s_X2_isHouse_0_4, s_X2_isHouse_0_6, s_X2_isHouse_0_9, s_X2_isHouse_0_10, s_X2_isHouse_0_13, s_X2_isHouse_0_15, s_X2_isHouse_0_18, s_X2_isHouse_0_19, s_X2_isHouse_0_22, s_X2_isHouse_0_23_b0, s_X2_isHouse_0_23_b1, s_X2_empty_0_0, s_X2_empty_0_1, s_X2_empty_0_2, s_X2_empty_0_5, s_X4_empty_0_0, s_X4_empty_0_1, s_X4_empty_0_2, s_X4_empty_0_5, s_X4_empty_0_6, s_X4_empty_0_7, s_X4_empty_0_10, s_X4_empty_0_11, s_X4_empty_0_12, s_X4_empty_0_15, s_X4_empty_0_16, s_X4_empty_0_17, s_X4_empty_0_20, ↓i_lt_t, ↓i_lt_f, ↓i_le_t, ↓i_le_f, ↓i_eq_t, ↓i_eq_f, ↓i_m1a, ↓i_m1b, ↓i_m1c, ↓i_m1d, ↓i_m1e, ↓i_m1f, c_lt, c_le, c_eq, if_pos, if_neg, bnd_some, Option.toList, List.nil_append, List.cons_append, c_add, m1_lt, m1_eq1, m1_eq2, m1_le, ret_1, ret_0, if_true, if_false, eq_self_iff, f4.1, firstFault_ok sc I A Z 16 cs f4, hf, q1, f6, pk_un, floors_ok sc _ _ Z _ _ hX']
    · simp (disch := omega) only [pk_un]
  · obtain ⟨f1, f2, f3, f4, f5, f6, f7, f8⟩ := hX
    obtain ⟨g, q1, q2⟩ := mRead_loop sc I A Z cs f4 hf
    obtain ⟨a1, a2⟩ := f4.2.2 15 (by omega)
    have a3 : setA A 28 g 27 15 = nI (cs 15) := a2
    have hX' : MH (fun c => sgo (cs (c + c / 4))) (cs 15 - 48) 0 (upd (upd (upd (upd (upd (upd (upd I 20 (nI (cs 15 - 48))) 21 (nI 0)) 26 (nI 0)) 27 (nI 0)) 29 (nI 0)) 22 (nI (R + 1))) 19 (nI 0)) (setA A 28 g) := ⟨rfl, rfl, by omega, by omega, by decide, fun c hc => ⟨q2 c hc, good_sign hf c hc⟩⟩
    refine ⟨_, _, Z, ?_, And.intro (fun _ => hX') (And.intro (fun e => absurd e (by decide)) (And.intro (And.intro ⟨rfl, by decide, fun j hj => absurd hj (by omega)⟩ (And.intro ⟨rfl, by decide, fun j hj => absurd hj (by omega)⟩ (And.intro ⟨rfl, by decide, fun j hj => absurd hj (by omega)⟩ rfl))) (And.intro ⟨rfl, by decide, fun j hj => absurd hj (by omega)⟩ (And.intro f5 (And.intro rfl (And.intro (fun e => absurd e (by decide)) (fun _ => ?_))))))), fun i a b => ?_, fun p a b => sa_n (by omega)⟩
    · simp (disch := omega) only [s_X8_house_0_0, s_X8_house_0_1, s_X8_house_0_4, s_X8_house_0_6, s_X8_house_0_9, s_X8_house_0_10, s_X8_house_0_13, s_X8_house_0_15, s_X8_house_0_18, s_X8_house_0_20, s_X8_house_0_21, s_X8_house_0_22, s_X8_house_0_24, s_X8_house_0_26, s_X8_house_0_29, s_X8_house_0_30, s_X8_house_0_33, s_X8_house_0_34, s_X8_house_0_35, s_X8_house_0_38, s_X8_house_0_39, s_X8_house_0_40, s_X8_house_0_41, s_X8_house_0_42, s_X8_house_0_43, s_X8_house_0_44, s_X8_house_0_47, s_X8_house_0_48, s_X8_house_0_51, s_X8_house_0_55, s_X8_house_0_56, s_X8_house_0_59, s_X8_house_0_61, s_X8_house_0_62, s_X8_house_0_64, s_X8_house_0_65, s_X8_house_0_68, s_X8_house_0_69, s_X8_house_0_70, s_X8_house_0_73, s_X8_house_0_74, s_X8_house_0_75, s_X8_house_0_78, s_X8_house_0_79, s_X8_house_0_80, s_X8_house_0_83, s_X8_house_0_84, s_X8_house_0_85, s_X8_house_0_88, s_X8_house_0_89, s_X8_house_0_90, s_X8_house_0_93, s_X8_house_0_94, s_X8_house_0_95, s_X8_house_0_98, s_X8_house_0_99, s_X8_house_0_100, s_X8_house_0_103, s_X8_house_0_104, s_X8_house_0_107, s_X8_house_0_54, ↓i_lt_t, ↓i_lt_f, ↓i_le_t, ↓i_le_f, ↓i_eq_t, ↓i_eq_f, ↓i_m1a, ↓i_m1b, ↓i_m1c, ↓i_m1d, ↓i_m1e, ↓i_m1f, c_lt, c_le, c_eq, if_pos, if_neg, bnd_some, Option.toList, List.nil_append, List.cons_append, c_add, m1_lt, m1_eq1, m1_eq2, m1_le, ret_1, ret_0, if_true, if_false, eq_self_iff, f4.1, faultOf_ok sc I A Z 16 cs f4, hf, q1, a3, c_sub, f6, pk_un, mFloors_ok sc _ _ Z _ _ _ hX']
    · have b01 : b = 0 ∨ b = 1 := by have := hW.2.2.2.2; omega
      show I 31 = -1 ∨ ∃ r, r < R + 1 ∧ I 31 = nI r
      rcases b01 with rfl | rfl
      · rcases f8 rfl with e | ⟨r, hr, e⟩
        · exact Or.inl e
        · exact Or.inr ⟨r, by omega, e⟩
      · exact Or.inr ⟨R, by omega, (f7 rfl).1⟩
    · simp (disch := omega) only [pk_un]
