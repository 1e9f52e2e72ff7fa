/-! THE LAW'S LOOP: its head, and what is wanted of each call (by program: wip/whole/mk40.py) -/
def I0 : Nat → Int32 := upd (fun _ => 0) 31 (-1)
def A0 : Nat → Nat → Int32 := fun _ _ => 0
theorem Ok.both {sc : Nat × (Nat → Int32)} {N : Nat} {U : St} {kx : Nat} {lx : Ls} {km : Nat} {lm : Ls} (h : Ok sc N U kx lx km lm) (I : Nat → Int32) (A : Nat → Nat → Int32) (Z : Int64) (hX : XS U I A) (hM : MSt U I A) :
    ∃ (r : Int32) (U' : St) (I1 I2 : Nat → Int32) (A1 A2 : Nat → Nat → Int32) (Z2 : Int64), rs sc kx 0 lx [] [] (hp I A Z) = some (some (.int r), hp I1 A1 Z) ∧ rs sc km 0 lm [] [] (hp I1 A1 Z) = some (some (.int r), hp I2 A2 Z2) ∧ WF (N + 1) U' ∧ XS U' I2 A2 ∧ MSt U' I2 A2 := by
  obtain ⟨r, U', hW, hx, hm⟩ := h
  obtain ⟨I1, A1, a1, a2, a3, a4⟩ := hx I A Z hX
  have hM1 : MSt U I1 A1 := hM.fr (fun j b c _ _ _ _ => a3 j b c) ⟨fun p b c _ _ _ _ _ _ => a4 p b c, fun j _ => by rw [a4 28 (by decide) (by decide)]⟩
  obtain ⟨I2, A2, Z2, b1, b2, b3, b4⟩ := hm I1 A1 Z hM1
  exact ⟨r, U', I1, I2, A1, A2, Z2, a1, b1, hW, a2.fr (fun j x y => b3 j x (by omega)) (fun p x y => b4 p x (by omega)), b2⟩
def Nx (sc : Nat × (Nat → Int32)) (N i : Nat) (I : Nat → Int32) (A : Nat → Nat → Int32) (Z : Int64) (pc : Nat) : Prop :=
  ∃ (I' : Nat → Int32) (A' : Nat → Nat → Int32) (Z' : Int64) (U' : St), rs sc 148 pc [some (.ref 1000000), some (.ref 0), some (.ref 26), some (.int (nI i))] [] [] (hp I A Z) = rs sc 148 773 [some (.ref 1000000), some (.ref 0), some (.ref 26), some (.int (nI i))] [] [] (hp I' A' Z') ∧ WF (N + 1) U' ∧ XS U' I' A' ∧ MSt U' I' A'
theorem lg_self (x : Int64) : lg_cmp x x = nI 0 := by
  unfold lg_cmp
  rw [if_neg (show ¬ x > x from Int64.lt_irrefl), if_pos rfl]
  rfl
section
set_option maxRecDepth 100000 in
theorem lc_letter (sc : Nat × (Nat → Int32)) (hL : sc.1 ≤ 2048) (N : Nat) (hN : N < 1000000) (U : St) (hW : WF N U) (i : Nat) (hi : i + 4 ≤ sc.1) (I : Nat → Int32) (A : Nat → Nat → Int32) (Z : Int64) (hX : XS U I A) (hM : MSt U I A) : Nx sc N i I A Z 144 := by
  obtain ⟨r, U', I1, I2, A1, A2, Z2, e1, e2, h1, h2, h3⟩ := (call_letter sc N U hW (sc.2 (i + 1))).both I A Z hX hM
  refine ⟨I2, A2, Z2, U', ?_, h1, h2, h3⟩
  simp (disch := omega) only [s_L_law_0_144, s_L_law_0_145, s_L_law_0_146, s_L_law_0_147, s_L_law_0_148, s_L_law_0_149, s_L_law_0_150, s_L_law_0_153, s_L_law_0_154, s_L_law_0_155, s_L_law_0_156, s_L_law_0_157, s_L_law_0_158, s_L_law_0_159, s_L_law_0_162, s_L_law_0_165, s_L_law_0_166, ↓i_lt_t, ↓i_lt_f, ↓i_le_t, ↓i_le_f, ↓i_eq_t, ↓i_eq_f, ↓i_m1a, ↓i_m1b, ↓i_m1c, ↓i_m1d, ↓i_m1e, ↓i_m1f, c_lt, c_le, c_eq, if_pos, if_neg, bnd_some, Option.toList, List.nil_append, List.cons_append, c_add, m1_lt, m1_eq1, m1_eq2, m1_le, ret_1, ret_0, if_true, if_false, eq_self_iff, e1, e2]
set_option maxRecDepth 100000 in
theorem lc_blank (sc : Nat × (Nat → Int32)) (hL : sc.1 ≤ 2048) (N : Nat) (hN : N < 1000000) (U : St) (hW : WF N U) (i : Nat) (hi : i + 4 ≤ sc.1) (I : Nat → Int32) (A : Nat → Nat → Int32) (Z : Int64) (hX : XS U I A) (hM : MSt U I A) : Nx sc N i I A Z 167 := by
  obtain ⟨r, U', I1, I2, A1, A2, Z2, e1, e2, h1, h2, h3⟩ := (call_blank sc N U hW ).both I A Z hX hM
  refine ⟨I2, A2, Z2, U', ?_, h1, h2, h3⟩
  simp (disch := omega) only [s_L_law_0_167, s_L_law_0_168, s_L_law_0_171, s_L_law_0_172, s_L_law_0_175, s_L_law_0_178, s_L_law_0_179, ↓i_lt_t, ↓i_lt_f, ↓i_le_t, ↓i_le_f, ↓i_eq_t, ↓i_eq_f, ↓i_m1a, ↓i_m1b, ↓i_m1c, ↓i_m1d, ↓i_m1e, ↓i_m1f, c_lt, c_le, c_eq, if_pos, if_neg, bnd_some, Option.toList, List.nil_append, List.cons_append, c_add, m1_lt, m1_eq1, m1_eq2, m1_le, ret_1, ret_0, if_true, if_false, eq_self_iff, e1, e2]
set_option maxRecDepth 100000 in
theorem lc_fault (sc : Nat × (Nat → Int32)) (hL : sc.1 ≤ 2048) (N : Nat) (hN : N < 1000000) (U : St) (hW : WF N U) (i : Nat) (hi : i + 4 ≤ sc.1) (I : Nat → Int32) (A : Nat → Nat → Int32) (Z : Int64) (hX : XS U I A) (hM : MSt U I A) : Nx sc N i I A Z 180 := by
  obtain ⟨r, U', I1, I2, A1, A2, Z2, e1, e2, h1, h2, h3⟩ := (call_fault sc N U hW ).both I A Z hX hM
  refine ⟨I2, A2, Z2, U', ?_, h1, h2, h3⟩
  simp (disch := omega) only [s_L_law_0_180, s_L_law_0_181, s_L_law_0_184, s_L_law_0_185, s_L_law_0_188, s_L_law_0_191, s_L_law_0_192, ↓i_lt_t, ↓i_lt_f, ↓i_le_t, ↓i_le_f, ↓i_eq_t, ↓i_eq_f, ↓i_m1a, ↓i_m1b, ↓i_m1c, ↓i_m1d, ↓i_m1e, ↓i_m1f, c_lt, c_le, c_eq, if_pos, if_neg, bnd_some, Option.toList, List.nil_append, List.cons_append, c_add, m1_lt, m1_eq1, m1_eq2, m1_le, ret_1, ret_0, if_true, if_false, eq_self_iff, e1, e2]
set_option maxRecDepth 100000 in
theorem lc_house (sc : Nat × (Nat → Int32)) (hL : sc.1 ≤ 2048) (N : Nat) (hN : N < 1000000) (U : St) (hW : WF N U) (i : Nat) (hi : i + 4 ≤ sc.1) (I : Nat → Int32) (A : Nat → Nat → Int32) (Z : Int64) (hX : XS U I A) (hM : MSt U I A) : Nx sc N i I A Z 193 := by
  obtain ⟨r, U', I1, I2, A1, A2, Z2, e1, e2, h1, h2, h3⟩ := (call_house sc N U hW ).both I A Z hX hM
  refine ⟨I2, A2, Z2, U', ?_, h1, h2, h3⟩
  simp (disch := omega) only [s_L_law_0_193, s_L_law_0_194, s_L_law_0_197, s_L_law_0_198, s_L_law_0_201, s_L_law_0_204, s_L_law_0_205, ↓i_lt_t, ↓i_lt_f, ↓i_le_t, ↓i_le_f, ↓i_eq_t, ↓i_eq_f, ↓i_m1a, ↓i_m1b, ↓i_m1c, ↓i_m1d, ↓i_m1e, ↓i_m1f, c_lt, c_le, c_eq, if_pos, if_neg, bnd_some, Option.toList, List.nil_append, List.cons_append, c_add, m1_lt, m1_eq1, m1_eq2, m1_le, ret_1, ret_0, if_true, if_false, eq_self_iff, e1, e2]
set_option maxRecDepth 100000 in
theorem lc_cell (sc : Nat × (Nat → Int32)) (hL : sc.1 ≤ 2048) (N : Nat) (hN : N < 1000000) (U : St) (hW : WF N U) (i : Nat) (hi : i + 4 ≤ sc.1) (I : Nat → Int32) (A : Nat → Nat → Int32) (Z : Int64) (hX : XS U I A) (hM : MSt U I A) : Nx sc N i I A Z 206 := by
  obtain ⟨r, U', I1, I2, A1, A2, Z2, e1, e2, h1, h2, h3⟩ := (call_cell sc N U hW (sc.2 (i + 1)) (sc.2 (i + 2))).both I A Z hX hM
  refine ⟨I2, A2, Z2, U', ?_, h1, h2, h3⟩
  simp (disch := omega) only [s_L_law_0_206, s_L_law_0_207, s_L_law_0_208, s_L_law_0_209, s_L_law_0_210, s_L_law_0_211, s_L_law_0_212, s_L_law_0_213, s_L_law_0_214, s_L_law_0_215, s_L_law_0_216, s_L_law_0_217, s_L_law_0_220, s_L_law_0_221, s_L_law_0_222, s_L_law_0_223, s_L_law_0_224, s_L_law_0_225, s_L_law_0_226, s_L_law_0_227, s_L_law_0_228, s_L_law_0_229, s_L_law_0_230, s_L_law_0_231, s_L_law_0_234, s_L_law_0_237, s_L_law_0_238, ↓i_lt_t, ↓i_lt_f, ↓i_le_t, ↓i_le_f, ↓i_eq_t, ↓i_eq_f, ↓i_m1a, ↓i_m1b, ↓i_m1c, ↓i_m1d, ↓i_m1e, ↓i_m1f, c_lt, c_le, c_eq, if_pos, if_neg, bnd_some, Option.toList, List.nil_append, List.cons_append, c_add, m1_lt, m1_eq1, m1_eq2, m1_le, ret_1, ret_0, if_true, if_false, eq_self_iff, e1, e2]
set_option maxRecDepth 100000 in
theorem lc_as (sc : Nat × (Nat → Int32)) (hL : sc.1 ≤ 2048) (N : Nat) (hN : N < 1000000) (U : St) (hW : WF N U) (i : Nat) (hi : i + 4 ≤ sc.1) (I : Nat → Int32) (A : Nat → Nat → Int32) (Z : Int64) (hX : XS U I A) (hM : MSt U I A) : Nx sc N i I A Z 239 := by
  obtain ⟨r, U', I1, I2, A1, A2, Z2, e1, e2, h1, h2, h3⟩ := (call_as sc N U hW (sc.2 (i + 1)) (sc.2 (i + 2))).both I A Z hX hM
  refine ⟨I2, A2, Z2, U', ?_, h1, h2, h3⟩
  simp (disch := omega) only [s_L_law_0_239, s_L_law_0_240, s_L_law_0_241, s_L_law_0_242, s_L_law_0_243, s_L_law_0_244, s_L_law_0_245, s_L_law_0_246, s_L_law_0_247, s_L_law_0_248, s_L_law_0_249, s_L_law_0_250, s_L_law_0_253, s_L_law_0_254, s_L_law_0_255, s_L_law_0_256, s_L_law_0_257, s_L_law_0_258, s_L_law_0_259, s_L_law_0_260, s_L_law_0_261, s_L_law_0_262, s_L_law_0_263, s_L_law_0_264, s_L_law_0_267, s_L_law_0_270, s_L_law_0_271, ↓i_lt_t, ↓i_lt_f, ↓i_le_t, ↓i_le_f, ↓i_eq_t, ↓i_eq_f, ↓i_m1a, ↓i_m1b, ↓i_m1c, ↓i_m1d, ↓i_m1e, ↓i_m1f, c_lt, c_le, c_eq, if_pos, if_neg, bnd_some, Option.toList, List.nil_append, List.cons_append, c_add, m1_lt, m1_eq1, m1_eq2, m1_le, ret_1, ret_0, if_true, if_false, eq_self_iff, e1, e2]
set_option maxRecDepth 100000 in
theorem lc_dusk (sc : Nat × (Nat → Int32)) (hL : sc.1 ≤ 2048) (N : Nat) (hN : N < 1000000) (U : St) (hW : WF N U) (i : Nat) (hi : i + 4 ≤ sc.1) (I : Nat → Int32) (A : Nat → Nat → Int32) (Z : Int64) (hX : XS U I A) (hM : MSt U I A) : Nx sc N i I A Z 272 := by
  by_cases h0 : sc.2 (i + 1) = nI 0
  · obtain ⟨r, U', I1, I2, A1, A2, Z2, e1, e2, h1, h2, h3⟩ := (call_dusk sc N U hW 0 (by decide)).both I A Z hX hM
    refine ⟨I2, A2, Z2, U', ?_, h1, h2, h3⟩
    simp (disch := omega) only [s_L_law_0_272, s_L_law_0_273, s_L_law_0_274, s_L_law_0_275, s_L_law_0_276, s_L_law_0_277, s_L_law_0_278, s_L_law_0_281, s_L_law_0_282, s_L_law_0_285, s_L_law_0_286, s_L_law_0_289, s_L_law_0_290, s_L_law_0_291, s_L_law_0_292, s_L_law_0_293, s_L_law_0_294, s_L_law_0_295, s_L_law_0_298, s_L_law_0_299, s_L_law_0_302, s_L_law_0_303, s_L_law_0_306, s_L_law_0_309, s_L_law_0_310, ↓i_lt_t, ↓i_lt_f, ↓i_le_t, ↓i_le_f, ↓i_eq_t, ↓i_eq_f, ↓i_m1a, ↓i_m1b, ↓i_m1c, ↓i_m1d, ↓i_m1e, ↓i_m1f, c_lt, c_le, c_eq, if_pos, if_neg, bnd_some, Option.toList, List.nil_append, List.cons_append, c_add, m1_lt, m1_eq1, m1_eq2, m1_le, ret_1, ret_0, if_true, if_false, eq_self_iff, ↓if_pos h0, e1, e2]
  · obtain ⟨r, U', I1, I2, A1, A2, Z2, e1, e2, h1, h2, h3⟩ := (call_dusk sc N U hW 1 (by decide)).both I A Z hX hM
    refine ⟨I2, A2, Z2, U', ?_, h1, h2, h3⟩
    simp (disch := omega) only [s_L_law_0_272, s_L_law_0_273, s_L_law_0_274, s_L_law_0_275, s_L_law_0_276, s_L_law_0_277, s_L_law_0_278, s_L_law_0_281, s_L_law_0_282, s_L_law_0_285, s_L_law_0_286, s_L_law_0_289, s_L_law_0_290, s_L_law_0_291, s_L_law_0_292, s_L_law_0_293, s_L_law_0_294, s_L_law_0_295, s_L_law_0_298, s_L_law_0_299, s_L_law_0_302, s_L_law_0_303, s_L_law_0_306, s_L_law_0_309, s_L_law_0_310, ↓i_lt_t, ↓i_lt_f, ↓i_le_t, ↓i_le_f, ↓i_eq_t, ↓i_eq_f, ↓i_m1a, ↓i_m1b, ↓i_m1c, ↓i_m1d, ↓i_m1e, ↓i_m1f, c_lt, c_le, c_eq, if_pos, if_neg, bnd_some, Option.toList, List.nil_append, List.cons_append, c_add, m1_lt, m1_eq1, m1_eq2, m1_le, ret_1, ret_0, if_true, if_false, eq_self_iff, ↓if_neg h0, e1, e2]
set_option maxRecDepth 100000 in
theorem lc_clerk (sc : Nat × (Nat → Int32)) (hL : sc.1 ≤ 2048) (N : Nat) (hN : N < 1000000) (U : St) (hW : WF N U) (i : Nat) (hi : i + 4 ≤ sc.1) (I : Nat → Int32) (A : Nat → Nat → Int32) (Z : Int64) (hX : XS U I A) (hM : MSt U I A) : Nx sc N i I A Z 311 := by
  obtain ⟨r, U', I1, I2, A1, A2, Z2, e1, e2, h1, h2, h3⟩ := (call_clerk sc N U hW (sc.2 (i + 1)) (sc.2 (i + 2))).both I A Z hX hM
  refine ⟨I2, A2, Z2, U', ?_, h1, h2, h3⟩
  simp (disch := omega) only [s_L_law_0_311, s_L_law_0_312, s_L_law_0_313, s_L_law_0_314, s_L_law_0_315, s_L_law_0_316, s_L_law_0_317, s_L_law_0_318, s_L_law_0_319, s_L_law_0_320, s_L_law_0_321, s_L_law_0_322, s_L_law_0_325, s_L_law_0_326, s_L_law_0_327, s_L_law_0_328, s_L_law_0_329, s_L_law_0_330, s_L_law_0_331, s_L_law_0_332, s_L_law_0_333, s_L_law_0_334, s_L_law_0_335, s_L_law_0_336, s_L_law_0_339, s_L_law_0_342, s_L_law_0_343, ↓i_lt_t, ↓i_lt_f, ↓i_le_t, ↓i_le_f, ↓i_eq_t, ↓i_eq_f, ↓i_m1a, ↓i_m1b, ↓i_m1c, ↓i_m1d, ↓i_m1e, ↓i_m1f, c_lt, c_le, c_eq, if_pos, if_neg, bnd_some, Option.toList, List.nil_append, List.cons_append, c_add, m1_lt, m1_eq1, m1_eq2, m1_le, ret_1, ret_0, if_true, if_false, eq_self_iff, e1, e2]
set_option maxRecDepth 100000 in
theorem lc_look (sc : Nat × (Nat → Int32)) (hL : sc.1 ≤ 2048) (N : Nat) (hN : N < 1000000) (U : St) (hW : WF N U) (i : Nat) (hi : i + 4 ≤ sc.1) (I : Nat → Int32) (A : Nat → Nat → Int32) (Z : Int64) (hX : XS U I A) (hM : MSt U I A) : Nx sc N i I A Z 344 := by
  obtain ⟨r, U', I1, I2, A1, A2, Z2, e1, e2, h1, h2, h3⟩ := (call_look sc N U hW (sc.2 (i + 1)) (sc.2 (i + 2))).both I A Z hX hM
  refine ⟨I2, A2, Z2, U', ?_, h1, h2, h3⟩
  simp (disch := omega) only [s_L_law_0_344, s_L_law_0_345, s_L_law_0_346, s_L_law_0_347, s_L_law_0_348, s_L_law_0_349, s_L_law_0_350, s_L_law_0_351, s_L_law_0_352, s_L_law_0_353, s_L_law_0_354, s_L_law_0_355, s_L_law_0_358, s_L_law_0_359, s_L_law_0_360, s_L_law_0_361, s_L_law_0_362, s_L_law_0_363, s_L_law_0_364, s_L_law_0_365, s_L_law_0_366, s_L_law_0_367, s_L_law_0_368, s_L_law_0_369, s_L_law_0_372, s_L_law_0_375, s_L_law_0_376, ↓i_lt_t, ↓i_lt_f, ↓i_le_t, ↓i_le_f, ↓i_eq_t, ↓i_eq_f, ↓i_m1a, ↓i_m1b, ↓i_m1c, ↓i_m1d, ↓i_m1e, ↓i_m1f, c_lt, c_le, c_eq, if_pos, if_neg, bnd_some, Option.toList, List.nil_append, List.cons_append, c_add, m1_lt, m1_eq1, m1_eq2, m1_le, ret_1, ret_0, if_true, if_false, eq_self_iff, e1, e2]
set_option maxRecDepth 100000 in
theorem lc_clerkOf (sc : Nat × (Nat → Int32)) (hL : sc.1 ≤ 2048) (N : Nat) (hN : N < 1000000) (U : St) (hW : WF N U) (i : Nat) (hi : i + 4 ≤ sc.1) (I : Nat → Int32) (A : Nat → Nat → Int32) (Z : Int64) (hX : XS U I A) (hM : MSt U I A) : Nx sc N i I A Z 377 := by
  obtain ⟨r, U', I1, I2, A1, A2, Z2, e1, e2, h1, h2, h3⟩ := (call_clerkOf sc N U hW (sc.2 (i + 1)) (sc.2 (i + 2))).both I A Z hX hM
  refine ⟨I2, A2, Z2, U', ?_, h1, h2, h3⟩
  simp (disch := omega) only [s_L_law_0_377, s_L_law_0_378, s_L_law_0_379, s_L_law_0_380, s_L_law_0_381, s_L_law_0_382, s_L_law_0_383, s_L_law_0_384, s_L_law_0_385, s_L_law_0_386, s_L_law_0_387, s_L_law_0_388, s_L_law_0_391, s_L_law_0_392, s_L_law_0_393, s_L_law_0_394, s_L_law_0_395, s_L_law_0_396, s_L_law_0_397, s_L_law_0_398, s_L_law_0_399, s_L_law_0_400, s_L_law_0_401, s_L_law_0_402, s_L_law_0_405, s_L_law_0_408, s_L_law_0_409, ↓i_lt_t, ↓i_lt_f, ↓i_le_t, ↓i_le_f, ↓i_eq_t, ↓i_eq_f, ↓i_m1a, ↓i_m1b, ↓i_m1c, ↓i_m1d, ↓i_m1e, ↓i_m1f, c_lt, c_le, c_eq, if_pos, if_neg, bnd_some, Option.toList, List.nil_append, List.cons_append, c_add, m1_lt, m1_eq1, m1_eq2, m1_le, ret_1, ret_0, if_true, if_false, eq_self_iff, e1, e2]
set_option maxRecDepth 100000 in
theorem lc_person (sc : Nat × (Nat → Int32)) (hL : sc.1 ≤ 2048) (N : Nat) (hN : N < 1000000) (U : St) (hW : WF N U) (i : Nat) (hi : i + 4 ≤ sc.1) (I : Nat → Int32) (A : Nat → Nat → Int32) (Z : Int64) (hX : XS U I A) (hM : MSt U I A) : Nx sc N i I A Z 410 := by
  obtain ⟨r, U', I1, I2, A1, A2, Z2, e1, e2, h1, h2, h3⟩ := (call_person sc N U hW (sc.2 (i + 1))).both I A Z hX hM
  refine ⟨I2, A2, Z2, U', ?_, h1, h2, h3⟩
  simp (disch := omega) only [s_L_law_0_410, s_L_law_0_411, s_L_law_0_412, s_L_law_0_413, s_L_law_0_414, s_L_law_0_415, s_L_law_0_416, s_L_law_0_419, s_L_law_0_420, s_L_law_0_421, s_L_law_0_422, s_L_law_0_423, s_L_law_0_424, s_L_law_0_425, s_L_law_0_428, s_L_law_0_431, s_L_law_0_432, ↓i_lt_t, ↓i_lt_f, ↓i_le_t, ↓i_le_f, ↓i_eq_t, ↓i_eq_f, ↓i_m1a, ↓i_m1b, ↓i_m1c, ↓i_m1d, ↓i_m1e, ↓i_m1f, c_lt, c_le, c_eq, if_pos, if_neg, bnd_some, Option.toList, List.nil_append, List.cons_append, c_add, m1_lt, m1_eq1, m1_eq2, m1_le, ret_1, ret_0, if_true, if_false, eq_self_iff, e1, e2]
set_option maxRecDepth 100000 in
theorem lc_personOf (sc : Nat × (Nat → Int32)) (hL : sc.1 ≤ 2048) (N : Nat) (hN : N < 1000000) (U : St) (hW : WF N U) (i : Nat) (hi : i + 4 ≤ sc.1) (I : Nat → Int32) (A : Nat → Nat → Int32) (Z : Int64) (hX : XS U I A) (hM : MSt U I A) : Nx sc N i I A Z 433 := by
  obtain ⟨r, U', I1, I2, A1, A2, Z2, e1, e2, h1, h2, h3⟩ := (call_personOf sc N U hW (sc.2 (i + 1)) (sc.2 (i + 2))).both I A Z hX hM
  refine ⟨I2, A2, Z2, U', ?_, h1, h2, h3⟩
  simp (disch := omega) only [s_L_law_0_433, s_L_law_0_434, s_L_law_0_435, s_L_law_0_436, s_L_law_0_437, s_L_law_0_438, s_L_law_0_439, s_L_law_0_440, s_L_law_0_441, s_L_law_0_442, s_L_law_0_443, s_L_law_0_444, s_L_law_0_447, s_L_law_0_448, s_L_law_0_449, s_L_law_0_450, s_L_law_0_451, s_L_law_0_452, s_L_law_0_453, s_L_law_0_454, s_L_law_0_455, s_L_law_0_456, s_L_law_0_457, s_L_law_0_458, s_L_law_0_461, s_L_law_0_464, s_L_law_0_465, ↓i_lt_t, ↓i_lt_f, ↓i_le_t, ↓i_le_f, ↓i_eq_t, ↓i_eq_f, ↓i_m1a, ↓i_m1b, ↓i_m1c, ↓i_m1d, ↓i_m1e, ↓i_m1f, c_lt, c_le, c_eq, if_pos, if_neg, bnd_some, Option.toList, List.nil_append, List.cons_append, c_add, m1_lt, m1_eq1, m1_eq2, m1_le, ret_1, ret_0, if_true, if_false, eq_self_iff, e1, e2]
set_option maxRecDepth 100000 in
theorem lc_step (sc : Nat × (Nat → Int32)) (hL : sc.1 ≤ 2048) (N : Nat) (hN : N < 1000000) (U : St) (hW : WF N U) (i : Nat) (hi : i + 4 ≤ sc.1) (I : Nat → Int32) (A : Nat → Nat → Int32) (Z : Int64) (hX : XS U I A) (hM : MSt U I A) : Nx sc N i I A Z 466 := by
  obtain ⟨r, U', I1, I2, A1, A2, Z2, e1, e2, h1, h2, h3⟩ := (call_step sc N U hW (sc.2 (i + 1)) (sc.2 (i + 2))).both I A Z hX hM
  refine ⟨I2, A2, Z2, U', ?_, h1, h2, h3⟩
  simp (disch := omega) only [s_L_law_0_466, s_L_law_0_467, s_L_law_0_468, s_L_law_0_469, s_L_law_0_470, s_L_law_0_471, s_L_law_0_472, s_L_law_0_473, s_L_law_0_474, s_L_law_0_475, s_L_law_0_476, s_L_law_0_477, s_L_law_0_480, s_L_law_0_481, s_L_law_0_482, s_L_law_0_483, s_L_law_0_484, s_L_law_0_485, s_L_law_0_486, s_L_law_0_487, s_L_law_0_488, s_L_law_0_489, s_L_law_0_490, s_L_law_0_491, s_L_law_0_494, s_L_law_0_497, s_L_law_0_498, ↓i_lt_t, ↓i_lt_f, ↓i_le_t, ↓i_le_f, ↓i_eq_t, ↓i_eq_f, ↓i_m1a, ↓i_m1b, ↓i_m1c, ↓i_m1d, ↓i_m1e, ↓i_m1f, c_lt, c_le, c_eq, if_pos, if_neg, bnd_some, Option.toList, List.nil_append, List.cons_append, c_add, m1_lt, m1_eq1, m1_eq2, m1_le, ret_1, ret_0, if_true, if_false, eq_self_iff, e1, e2]
set_option maxRecDepth 100000 in
theorem lc_walk (sc : Nat × (Nat → Int32)) (hL : sc.1 ≤ 2048) (N : Nat) (hN : N < 1000000) (U : St) (hW : WF N U) (i : Nat) (hi : i + 4 ≤ sc.1) (I : Nat → Int32) (A : Nat → Nat → Int32) (Z : Int64) (hX : XS U I A) (hM : MSt U I A) : Nx sc N i I A Z 499 := by
  obtain ⟨r, U', I1, I2, A1, A2, Z2, e1, e2, h1, h2, h3⟩ := (call_walk sc N U hW (sc.2 (i + 1)) (sc.2 (i + 2)) (sc.2 (i + 3))).both I A Z hX hM
  refine ⟨I2, A2, Z2, U', ?_, h1, h2, h3⟩
  simp (disch := omega) only [s_L_law_0_499, s_L_law_0_500, s_L_law_0_501, s_L_law_0_502, s_L_law_0_503, s_L_law_0_504, s_L_law_0_505, s_L_law_0_506, s_L_law_0_507, s_L_law_0_508, s_L_law_0_509, s_L_law_0_510, s_L_law_0_511, s_L_law_0_512, s_L_law_0_513, s_L_law_0_514, s_L_law_0_515, s_L_law_0_518, s_L_law_0_519, s_L_law_0_520, s_L_law_0_521, s_L_law_0_522, s_L_law_0_523, s_L_law_0_524, s_L_law_0_525, s_L_law_0_526, s_L_law_0_527, s_L_law_0_528, s_L_law_0_529, s_L_law_0_530, s_L_law_0_531, s_L_law_0_532, s_L_law_0_533, s_L_law_0_534, s_L_law_0_537, s_L_law_0_540, s_L_law_0_541, ↓i_lt_t, ↓i_lt_f, ↓i_le_t, ↓i_le_f, ↓i_eq_t, ↓i_eq_f, ↓i_m1a, ↓i_m1b, ↓i_m1c, ↓i_m1d, ↓i_m1e, ↓i_m1f, c_lt, c_le, c_eq, if_pos, if_neg, bnd_some, Option.toList, List.nil_append, List.cons_append, c_add, m1_lt, m1_eq1, m1_eq2, m1_le, ret_1, ret_0, if_true, if_false, eq_self_iff, e1, e2]
set_option maxRecDepth 100000 in
theorem lc_post (sc : Nat × (Nat → Int32)) (hL : sc.1 ≤ 2048) (N : Nat) (hN : N < 1000000) (U : St) (hW : WF N U) (i : Nat) (hi : i + 4 ≤ sc.1) (I : Nat → Int32) (A : Nat → Nat → Int32) (Z : Int64) (hX : XS U I A) (hM : MSt U I A) : Nx sc N i I A Z 542 := by
  obtain ⟨r, U', I1, I2, A1, A2, Z2, e1, e2, h1, h2, h3⟩ := (call_post sc N U hW (sc.2 (i + 1))).both I A Z hX hM
  refine ⟨I2, A2, Z2, U', ?_, h1, h2, h3⟩
  simp (disch := omega) only [s_L_law_0_542, s_L_law_0_543, s_L_law_0_544, s_L_law_0_545, s_L_law_0_546, s_L_law_0_547, s_L_law_0_548, s_L_law_0_551, s_L_law_0_552, s_L_law_0_553, s_L_law_0_554, s_L_law_0_555, s_L_law_0_556, s_L_law_0_557, s_L_law_0_560, s_L_law_0_563, s_L_law_0_564, ↓i_lt_t, ↓i_lt_f, ↓i_le_t, ↓i_le_f, ↓i_eq_t, ↓i_eq_f, ↓i_m1a, ↓i_m1b, ↓i_m1c, ↓i_m1d, ↓i_m1e, ↓i_m1f, c_lt, c_le, c_eq, if_pos, if_neg, bnd_some, Option.toList, List.nil_append, List.cons_append, c_add, m1_lt, m1_eq1, m1_eq2, m1_le, ret_1, ret_0, if_true, if_false, eq_self_iff, e1, e2]
set_option maxRecDepth 100000 in
theorem lc_tilt (sc : Nat × (Nat → Int32)) (hL : sc.1 ≤ 2048) (N : Nat) (hN : N < 1000000) (U : St) (hW : WF N U) (i : Nat) (hi : i + 4 ≤ sc.1) (I : Nat → Int32) (A : Nat → Nat → Int32) (Z : Int64) (hX : XS U I A) (hM : MSt U I A) : Nx sc N i I A Z 565 := by
  obtain ⟨r, U', I1, I2, A1, A2, Z2, e1, e2, h1, h2, h3⟩ := (call_tilt sc N U hW (sc.2 (i + 1)) (sc.2 (i + 2))).both I A Z hX hM
  refine ⟨I2, A2, Z2, U', ?_, h1, h2, h3⟩
  simp (disch := omega) only [s_L_law_0_565, s_L_law_0_566, s_L_law_0_567, s_L_law_0_568, s_L_law_0_569, s_L_law_0_570, s_L_law_0_571, s_L_law_0_572, s_L_law_0_573, s_L_law_0_574, s_L_law_0_575, s_L_law_0_576, s_L_law_0_579, s_L_law_0_580, s_L_law_0_581, s_L_law_0_582, s_L_law_0_583, s_L_law_0_584, s_L_law_0_585, s_L_law_0_586, s_L_law_0_587, s_L_law_0_588, s_L_law_0_589, s_L_law_0_590, s_L_law_0_593, s_L_law_0_596, s_L_law_0_597, ↓i_lt_t, ↓i_lt_f, ↓i_le_t, ↓i_le_f, ↓i_eq_t, ↓i_eq_f, ↓i_m1a, ↓i_m1b, ↓i_m1c, ↓i_m1d, ↓i_m1e, ↓i_m1f, c_lt, c_le, c_eq, if_pos, if_neg, bnd_some, Option.toList, List.nil_append, List.cons_append, c_add, m1_lt, m1_eq1, m1_eq2, m1_le, ret_1, ret_0, if_true, if_false, eq_self_iff, e1, e2]
set_option maxRecDepth 100000 in
theorem lc_ledger (sc : Nat × (Nat → Int32)) (hL : sc.1 ≤ 2048) (N : Nat) (hN : N < 1000000) (U : St) (hW : WF N U) (i : Nat) (hi : i + 4 ≤ sc.1) (I : Nat → Int32) (A : Nat → Nat → Int32) (Z : Int64) (hX : XS U I A) (hM : MSt U I A) : Nx sc N i I A Z 598 := by
  obtain ⟨r, U', I1, I2, A1, A2, Z2, e1, e2, h1, h2, h3⟩ := (call_ledger sc N U hW (sc.2 (i + 1))).both I A Z hX hM
  refine ⟨I2, A2, Z2, U', ?_, h1, h2, h3⟩
  simp (disch := omega) only [s_L_law_0_598, s_L_law_0_599, s_L_law_0_600, s_L_law_0_601, s_L_law_0_602, s_L_law_0_603, s_L_law_0_604, s_L_law_0_607, s_L_law_0_608, s_L_law_0_609, s_L_law_0_610, s_L_law_0_611, s_L_law_0_612, s_L_law_0_613, s_L_law_0_616, s_L_law_0_619, s_L_law_0_620, ↓i_lt_t, ↓i_lt_f, ↓i_le_t, ↓i_le_f, ↓i_eq_t, ↓i_eq_f, ↓i_m1a, ↓i_m1b, ↓i_m1c, ↓i_m1d, ↓i_m1e, ↓i_m1f, c_lt, c_le, c_eq, if_pos, if_neg, bnd_some, Option.toList, List.nil_append, List.cons_append, c_add, m1_lt, m1_eq1, m1_eq2, m1_le, ret_1, ret_0, if_true, if_false, eq_self_iff, e1, e2]
set_option maxRecDepth 100000 in
theorem lc_forget (sc : Nat × (Nat → Int32)) (hL : sc.1 ≤ 2048) (N : Nat) (hN : N < 1000000) (U : St) (hW : WF N U) (i : Nat) (hi : i + 4 ≤ sc.1) (I : Nat → Int32) (A : Nat → Nat → Int32) (Z : Int64) (hX : XS U I A) (hM : MSt U I A) : Nx sc N i I A Z 621 := by
  obtain ⟨r, U', I1, I2, A1, A2, Z2, e1, e2, h1, h2, h3⟩ := (call_forget sc N U hW ).both I A Z hX hM
  refine ⟨I2, A2, Z2, U', ?_, h1, h2, h3⟩
  simp (disch := omega) only [s_L_law_0_621, s_L_law_0_622, s_L_law_0_625, s_L_law_0_626, s_L_law_0_629, s_L_law_0_632, s_L_law_0_633, ↓i_lt_t, ↓i_lt_f, ↓i_le_t, ↓i_le_f, ↓i_eq_t, ↓i_eq_f, ↓i_m1a, ↓i_m1b, ↓i_m1c, ↓i_m1d, ↓i_m1e, ↓i_m1f, c_lt, c_le, c_eq, if_pos, if_neg, bnd_some, Option.toList, List.nil_append, List.cons_append, c_add, m1_lt, m1_eq1, m1_eq2, m1_le, ret_1, ret_0, if_true, if_false, eq_self_iff, e1, e2]
set_option maxRecDepth 100000 in
theorem lc_fits (sc : Nat × (Nat → Int32)) (hL : sc.1 ≤ 2048) (N : Nat) (hN : N < 1000000) (U : St) (hW : WF N U) (i : Nat) (hi : i + 4 ≤ sc.1) (I : Nat → Int32) (A : Nat → Nat → Int32) (Z : Int64) (hX : XS U I A) (hM : MSt U I A) : Nx sc N i I A Z 634 := by
  obtain ⟨r, U', I1, I2, A1, A2, Z2, e1, e2, h1, h2, h3⟩ := (call_fits sc N U hW (sc.2 (i + 1)) (sc.2 (i + 2))).both I A Z hX hM
  refine ⟨I2, A2, Z2, U', ?_, h1, h2, h3⟩
  simp (disch := omega) only [s_L_law_0_634, s_L_law_0_635, s_L_law_0_636, s_L_law_0_637, s_L_law_0_638, s_L_law_0_639, s_L_law_0_640, s_L_law_0_641, s_L_law_0_642, s_L_law_0_643, s_L_law_0_644, s_L_law_0_645, s_L_law_0_648, s_L_law_0_649, s_L_law_0_650, s_L_law_0_651, s_L_law_0_652, s_L_law_0_653, s_L_law_0_654, s_L_law_0_655, s_L_law_0_656, s_L_law_0_657, s_L_law_0_658, s_L_law_0_659, s_L_law_0_662, s_L_law_0_665, s_L_law_0_666, ↓i_lt_t, ↓i_lt_f, ↓i_le_t, ↓i_le_f, ↓i_eq_t, ↓i_eq_f, ↓i_m1a, ↓i_m1b, ↓i_m1c, ↓i_m1d, ↓i_m1e, ↓i_m1f, c_lt, c_le, c_eq, if_pos, if_neg, bnd_some, Option.toList, List.nil_append, List.cons_append, c_add, m1_lt, m1_eq1, m1_eq2, m1_le, ret_1, ret_0, if_true, if_false, eq_self_iff, e1, e2]
set_option maxRecDepth 100000 in
theorem lc_days (sc : Nat × (Nat → Int32)) (hL : sc.1 ≤ 2048) (N : Nat) (hN : N < 1000000) (U : St) (hW : WF N U) (i : Nat) (hi : i + 4 ≤ sc.1) (I : Nat → Int32) (A : Nat → Nat → Int32) (Z : Int64) (hX : XS U I A) (hM : MSt U I A) : Nx sc N i I A Z 667 := by
  obtain ⟨r, U', I1, I2, A1, A2, Z2, e1, e2, h1, h2, h3⟩ := (call_days sc N U hW (sc.2 (i + 1)) (sc.2 (i + 2)) (sc.2 (i + 3))).both I A Z hX hM
  refine ⟨I2, A2, Z2, U', ?_, h1, h2, h3⟩
  simp (disch := omega) only [s_L_law_0_667, s_L_law_0_668, s_L_law_0_669, s_L_law_0_670, s_L_law_0_671, s_L_law_0_672, s_L_law_0_673, s_L_law_0_674, s_L_law_0_675, s_L_law_0_676, s_L_law_0_677, s_L_law_0_678, s_L_law_0_679, s_L_law_0_680, s_L_law_0_681, s_L_law_0_682, s_L_law_0_683, s_L_law_0_686, s_L_law_0_687, s_L_law_0_688, s_L_law_0_689, s_L_law_0_690, s_L_law_0_691, s_L_law_0_692, s_L_law_0_693, s_L_law_0_694, s_L_law_0_695, s_L_law_0_696, s_L_law_0_697, s_L_law_0_698, s_L_law_0_699, s_L_law_0_700, s_L_law_0_701, s_L_law_0_702, s_L_law_0_705, s_L_law_0_708, s_L_law_0_709, ↓i_lt_t, ↓i_lt_f, ↓i_le_t, ↓i_le_f, ↓i_eq_t, ↓i_eq_f, ↓i_m1a, ↓i_m1b, ↓i_m1c, ↓i_m1d, ↓i_m1e, ↓i_m1f, c_lt, c_le, c_eq, if_pos, if_neg, bnd_some, Option.toList, List.nil_append, List.cons_append, c_add, m1_lt, m1_eq1, m1_eq2, m1_le, ret_1, ret_0, if_true, if_false, eq_self_iff, e1, e2]
set_option maxRecDepth 100000 in
theorem lc_image (sc : Nat × (Nat → Int32)) (hL : sc.1 ≤ 2048) (N : Nat) (hN : N < 1000000) (U : St) (hW : WF N U) (i : Nat) (hi : i + 4 ≤ sc.1) (I : Nat → Int32) (A : Nat → Nat → Int32) (Z : Int64) (hX : XS U I A) (hM : MSt U I A) : Nx sc N i I A Z 710 := by
  obtain ⟨r, U', I1, I2, A1, A2, Z2, e1, e2, h1, h2, h3⟩ := (call_image sc N U hW ).both I A Z hX hM
  refine ⟨I2, A2, Z2, U', ?_, h1, h2, h3⟩
  simp (disch := omega) only [s_L_law_0_710, s_L_law_0_711, s_L_law_0_714, s_L_law_0_715, s_L_law_0_718, s_L_law_0_721, s_L_law_0_722, ↓i_lt_t, ↓i_lt_f, ↓i_le_t, ↓i_le_f, ↓i_eq_t, ↓i_eq_f, ↓i_m1a, ↓i_m1b, ↓i_m1c, ↓i_m1d, ↓i_m1e, ↓i_m1f, c_lt, c_le, c_eq, if_pos, if_neg, bnd_some, Option.toList, List.nil_append, List.cons_append, c_add, m1_lt, m1_eq1, m1_eq2, m1_le, ret_1, ret_0, if_true, if_false, eq_self_iff, e1, e2]
set_option maxRecDepth 100000 in
theorem lc_restore (sc : Nat × (Nat → Int32)) (hL : sc.1 ≤ 2048) (N : Nat) (hN : N < 1000000) (U : St) (hW : WF N U) (i : Nat) (hi : i + 4 ≤ sc.1) (I : Nat → Int32) (A : Nat → Nat → Int32) (Z : Int64) (hX : XS U I A) (hM : MSt U I A) : Nx sc N i I A Z 723 := by
  obtain ⟨r, U', I1, I2, A1, A2, Z2, e1, e2, h1, h2, h3⟩ := (call_restore sc N hN U hW ).both I A Z hX hM
  refine ⟨I2, A2, Z2, U', ?_, h1, h2, h3⟩
  simp (disch := omega) only [s_L_law_0_723, s_L_law_0_724, s_L_law_0_727, s_L_law_0_728, s_L_law_0_731, s_L_law_0_734, s_L_law_0_735, ↓i_lt_t, ↓i_lt_f, ↓i_le_t, ↓i_le_f, ↓i_eq_t, ↓i_eq_f, ↓i_m1a, ↓i_m1b, ↓i_m1c, ↓i_m1d, ↓i_m1e, ↓i_m1f, c_lt, c_le, c_eq, if_pos, if_neg, bnd_some, Option.toList, List.nil_append, List.cons_append, c_add, m1_lt, m1_eq1, m1_eq2, m1_le, ret_1, ret_0, if_true, if_false, eq_self_iff, e1, e2]
set_option maxRecDepth 100000 in
theorem lc_count (sc : Nat × (Nat → Int32)) (hL : sc.1 ≤ 2048) (N : Nat) (hN : N < 1000000) (U : St) (hW : WF N U) (i : Nat) (hi : i + 4 ≤ sc.1) (I : Nat → Int32) (A : Nat → Nat → Int32) (Z : Int64) (hX : XS U I A) (hM : MSt U I A) : Nx sc N i I A Z 736 := by
  obtain ⟨r, U', I1, I2, A1, A2, Z2, e1, e2, h1, h2, h3⟩ := (call_count sc N U hW (sc.2 (i + 1))).both I A Z hX hM
  refine ⟨I2, A2, Z2, U', ?_, h1, h2, h3⟩
  simp (disch := omega) only [s_L_law_0_736, s_L_law_0_737, s_L_law_0_738, s_L_law_0_739, s_L_law_0_740, s_L_law_0_741, s_L_law_0_742, s_L_law_0_745, s_L_law_0_746, s_L_law_0_747, s_L_law_0_748, s_L_law_0_749, s_L_law_0_750, s_L_law_0_751, s_L_law_0_754, s_L_law_0_757, s_L_law_0_758, ↓i_lt_t, ↓i_lt_f, ↓i_le_t, ↓i_le_f, ↓i_eq_t, ↓i_eq_f, ↓i_m1a, ↓i_m1b, ↓i_m1c, ↓i_m1d, ↓i_m1e, ↓i_m1f, c_lt, c_le, c_eq, if_pos, if_neg, bnd_some, Option.toList, List.nil_append, List.cons_append, c_add, m1_lt, m1_eq1, m1_eq2, m1_le, ret_1, ret_0, if_true, if_false, eq_self_iff, e1, e2]
set_option maxRecDepth 100000 in
theorem lc_digest (sc : Nat × (Nat → Int32)) (hL : sc.1 ≤ 2048) (N : Nat) (hN : N < 1000000) (U : St) (hW : WF N U) (i : Nat) (hi : i + 4 ≤ sc.1) (I : Nat → Int32) (A : Nat → Nat → Int32) (Z : Int64) (hX : XS U I A) (hM : MSt U I A) : Nx sc N i I A Z 759 := by
  obtain ⟨I1, A1, e1, q1⟩ := dgX sc N U hW I A Z hX
  have hM1 : MSt U I1 A1 := hM.fr (fun j b c _ _ _ _ => q1.1 j (Or.inr (by omega))) ⟨fun p b c _ _ _ _ _ _ => q1.2 p (Or.inr (by omega)), fun j _ => by rw [q1.2 28 (Or.inr (by decide))]⟩
  obtain ⟨I2, A2, Z2, e2, q2⟩ := dgM sc N U hW I1 A1 Z hM1
  refine ⟨I2, A2, Z2, U, ?_, hW.up, (hX.qx q1).fr (fun j a b => q2.1 j (by omega) (by omega) (by omega) (by omega)) (fun p a b => q2.2.1 p (by omega) (by omega) (by omega) (by omega) (by omega) (by omega)), hM1.qm q2⟩
  simp (disch := omega) only [s_L_law_0_759, s_L_law_0_760, s_L_law_0_763, s_L_law_0_764, s_L_law_0_767, s_L_law_0_768, s_L_law_0_771, s_L_law_0_772, ↓i_lt_t, ↓i_lt_f, ↓i_le_t, ↓i_le_f, ↓i_eq_t, ↓i_eq_f, ↓i_m1a, ↓i_m1b, ↓i_m1c, ↓i_m1d, ↓i_m1e, ↓i_m1f, c_lt, c_le, c_eq, if_pos, if_neg, bnd_some, Option.toList, List.nil_append, List.cons_append, c_add, m1_lt, m1_eq1, m1_eq2, m1_le, ret_1, ret_0, if_true, if_false, eq_self_iff, e1, e2, lg_self]
theorem lz_cmp {L i : Nat} (hL : L ≤ 2048) (hi : i ≤ L) (h : L < i + 4) : nI L - nI 4 < nI i := by
  by_cases h4 : 4 ≤ L
  · rw [c_sub h4]
    exact (nI_ltI (by omega) (by omega)).mpr (by omega)
  · rcases (show L = 0 ∨ L = 1 ∨ L = 2 ∨ L = 3 by omega) with rfl | rfl | rfl | rfl <;> rcases (show i = 0 ∨ i = 1 ∨ i = 2 ∨ i = 3 by omega) with rfl | rfl | rfl | rfl <;> decide
theorem lz_step (sc : Nat × (Nat → Int32)) (hL : sc.1 ≤ 2048) (N : Nat) (hN : N < 1000000) (U : St) (hW : WF N U) (i : Nat) (hi : i + 4 ≤ sc.1) (I : Nat → Int32) (A : Nat → Nat → Int32) (Z : Int64) (hX : XS U I A) (hM : MSt U I A) :
    ∃ (I' : Nat → Int32) (A' : Nat → Nat → Int32) (Z' : Int64) (U' : St), rs sc 148 18 [some (.ref 1000000), some (.ref 0), some (.ref 26), some (.int (nI i))] [] [] (hp I A Z) = rs sc 148 18 [some (.ref 1000000), some (.ref 0), some (.ref 26), some (.int (nI (i + 4)))] [] [] (hp I' A' Z') ∧ WF (N + 1) U' ∧ XS U' I' A' ∧ MSt U' I' A' := by
  obtain ⟨v, hv, ev⟩ := pk_andE (sc.2 i) (m := nI 31) 5 (by decide)
  have hv : v < 32 := hv
  have e1 : rs sc 148 18 [some (.ref 1000000), some (.ref 0), some (.ref 26), some (.int (nI i))] [] [] (hp I A Z) = rs sc 148 32 [some (.ref 1000000), some (.ref 0), some (.ref 26), some (.int (nI i))] [] [.int (nI v)] (hp I A Z) := by
    rw [s_L_law_0_18]
    simp (disch := omega) only [s_L_law_0_19, s_L_law_0_20, s_L_law_0_21, s_L_law_0_22, s_L_law_0_23, s_L_law_0_26, s_L_law_0_27, s_L_law_0_28, s_L_law_0_29, s_L_law_0_31, ↓i_lt_t, ↓i_lt_f, ↓i_le_t, ↓i_le_f, ↓i_eq_t, ↓i_eq_f, ↓i_m1a, ↓i_m1b, ↓i_m1c, ↓i_m1d, ↓i_m1e, ↓i_m1f, c_lt, c_le, c_eq, if_pos, if_neg, bnd_some, Option.toList, List.nil_append, List.cons_append, c_add, m1_lt, m1_eq1, m1_eq2, m1_le, ret_1, ret_0, if_true, if_false, eq_self_iff, c_sub, ev]
  have fin : ∀ pc : Nat, rs sc 148 32 [some (.ref 1000000), some (.ref 0), some (.ref 26), some (.int (nI i))] [] [.int (nI v)] (hp I A Z) = rs sc 148 pc [some (.ref 1000000), some (.ref 0), some (.ref 26), some (.int (nI i))] [] [] (hp I A Z) → Nx sc N i I A Z pc → ∃ (I' : Nat → Int32) (A' : Nat → Nat → Int32) (Z' : Int64) (U' : St), rs sc 148 18 [some (.ref 1000000), some (.ref 0), some (.ref 26), some (.int (nI i))] [] [] (hp I A Z) = rs sc 148 18 [some (.ref 1000000), some (.ref 0), some (.ref 26), some (.int (nI (i + 4)))] [] [] (hp I' A' Z') ∧ WF (N + 1) U' ∧ XS U' I' A' ∧ MSt U' I' A' := by
    intro pc h1 h2
    obtain ⟨I', A', Z', U', q1, q2⟩ := h2
    refine ⟨I', A', Z', U', ?_, q2⟩
    rw [e1, h1, q1, s_L_law_0_773, s_L_law_0_776, c_add]
  by_cases h24 : v < 24
  · rcases (show v = 0 ∨ v = 1 ∨ v = 2 ∨ v = 3 ∨ v = 4 ∨ v = 5 ∨ v = 6 ∨ v = 7 ∨ v = 8 ∨ v = 9 ∨ v = 10 ∨ v = 11 ∨ v = 12 ∨ v = 13 ∨ v = 14 ∨ v = 15 ∨ v = 16 ∨ v = 17 ∨ v = 18 ∨ v = 19 ∨ v = 20 ∨ v = 21 ∨ v = 22 ∨ v = 23 by omega) with rfl | rfl | rfl | rfl | rfl | rfl | rfl | rfl | rfl | rfl | rfl | rfl | rfl | rfl | rfl | rfl | rfl | rfl | rfl | rfl | rfl | rfl | rfl | rfl
    · exact fin 144 (s_L_law_0_32_0_k sc I A Z (nI i)) (lc_letter sc hL N hN U hW i hi I A Z hX hM)
    · exact fin 167 (s_L_law_0_32_1_k sc I A Z (nI i)) (lc_blank sc hL N hN U hW i hi I A Z hX hM)
    · exact fin 180 (s_L_law_0_32_2_k sc I A Z (nI i)) (lc_fault sc hL N hN U hW i hi I A Z hX hM)
    · exact fin 193 (s_L_law_0_32_3_k sc I A Z (nI i)) (lc_house sc hL N hN U hW i hi I A Z hX hM)
    · exact fin 206 (s_L_law_0_32_4_k sc I A Z (nI i)) (lc_cell sc hL N hN U hW i hi I A Z hX hM)
    · exact fin 239 (s_L_law_0_32_5_k sc I A Z (nI i)) (lc_as sc hL N hN U hW i hi I A Z hX hM)
    · exact fin 272 (s_L_law_0_32_6_k sc I A Z (nI i)) (lc_dusk sc hL N hN U hW i hi I A Z hX hM)
    · exact fin 311 (s_L_law_0_32_7_k sc I A Z (nI i)) (lc_clerk sc hL N hN U hW i hi I A Z hX hM)
    · exact fin 344 (s_L_law_0_32_8_k sc I A Z (nI i)) (lc_look sc hL N hN U hW i hi I A Z hX hM)
    · exact fin 377 (s_L_law_0_32_9_k sc I A Z (nI i)) (lc_clerkOf sc hL N hN U hW i hi I A Z hX hM)
    · exact fin 410 (s_L_law_0_32_10_k sc I A Z (nI i)) (lc_person sc hL N hN U hW i hi I A Z hX hM)
    · exact fin 433 (s_L_law_0_32_11_k sc I A Z (nI i)) (lc_personOf sc hL N hN U hW i hi I A Z hX hM)
    · exact fin 466 (s_L_law_0_32_12_k sc I A Z (nI i)) (lc_step sc hL N hN U hW i hi I A Z hX hM)
    · exact fin 499 (s_L_law_0_32_13_k sc I A Z (nI i)) (lc_walk sc hL N hN U hW i hi I A Z hX hM)
    · exact fin 542 (s_L_law_0_32_14_k sc I A Z (nI i)) (lc_post sc hL N hN U hW i hi I A Z hX hM)
    · exact fin 565 (s_L_law_0_32_15_k sc I A Z (nI i)) (lc_tilt sc hL N hN U hW i hi I A Z hX hM)
    · exact fin 598 (s_L_law_0_32_16_k sc I A Z (nI i)) (lc_ledger sc hL N hN U hW i hi I A Z hX hM)
    · exact fin 621 (s_L_law_0_32_17_k sc I A Z (nI i)) (lc_forget sc hL N hN U hW i hi I A Z hX hM)
    · exact fin 634 (s_L_law_0_32_18_k sc I A Z (nI i)) (lc_fits sc hL N hN U hW i hi I A Z hX hM)
    · exact fin 667 (s_L_law_0_32_19_k sc I A Z (nI i)) (lc_days sc hL N hN U hW i hi I A Z hX hM)
    · exact fin 710 (s_L_law_0_32_20_k sc I A Z (nI i)) (lc_image sc hL N hN U hW i hi I A Z hX hM)
    · exact fin 723 (s_L_law_0_32_21_k sc I A Z (nI i)) (lc_restore sc hL N hN U hW i hi I A Z hX hM)
    · exact fin 736 (s_L_law_0_32_22_k sc I A Z (nI i)) (lc_count sc hL N hN U hW i hi I A Z hX hM)
    · exact fin 759 (s_L_law_0_32_23_k sc I A Z (nI i)) (lc_digest sc hL N hN U hW i hi I A Z hX hM)
  · refine fin 773 ?_ ⟨I, A, Z, U, rfl, hW.up, hX, hM⟩
    exact s_L_law_0_32_d sc I A Z (nI i) (nI v) (Or.inr (by rw [nI_toInt (by omega)]; omega))
end
theorem lz_loop (sc : Nat × (Nat → Int32)) (hL : sc.1 ≤ 2048) : ∀ (f i N : Nat) (U : St) (I : Nat → Int32) (A : Nat → Nat → Int32) (Z : Int64), sc.1 < i + 4 * f → i ≤ sc.1 → N + f ≤ 10000 → WF N U → XS U I A → MSt U I A → ∃ h' : Hp, rs sc 148 18 [some (.ref 1000000), some (.ref 0), some (.ref 26), some (.int (nI i))] [] [] (hp I A Z) = some (some (.int 1), h') := by
  intro f
  induction f with
  | zero => intro i N U I A Z h1 h2; omega
  | succ f ih =>
    intro i N U I A Z h1 h2 hN hW hX hM
    by_cases h4 : i + 4 ≤ sc.1
    · obtain ⟨I', A', Z', U', q1, q2, q3, q4⟩ := lz_step sc hL N (by omega) U hW i h4 I A Z hX hM
      obtain ⟨h', r⟩ := ih (i + 4) (N + 1) U' I' A' Z' (by omega) (by omega) (by omega) q2 q3 q4
      exact ⟨h', q1.trans r⟩
    · have hc := lz_cmp hL h2 (by omega)
      refine ⟨hp I A Z, ?_⟩
      rw [s_L_law_0_18, s_L_law_0_19, s_L_law_0_20, s_L_law_0_21, s_L_law_0_22, s_L_law_0_23, if_pos hc, s_L_law_0_779, s_L_law_0_780]
      rfl
