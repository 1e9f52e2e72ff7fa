/-! the same for the law -/
set_option maxRecDepth 100000 in
theorem s_L_law_0_32_0_k (sc : Nat × (Nat → Int32)) (I : Nat → Int32) (A : Nat → Nat → Int32) (Z : Int64) (x3 : Int32) : rs sc 148 32 [some (.ref 1000000), some (.ref 0), some (.ref 26), some (.int x3)] [] [.int (nI 0)] (hp I A Z) = rs sc 148 144 [some (.ref 1000000), some (.ref 0), some (.ref 26), some (.int x3)] [] [] (hp I A Z) := s_L_law_0_32_0 sc I A Z x3 (nI 0)
set_option maxRecDepth 100000 in
theorem s_L_law_0_32_1_k (sc : Nat × (Nat → Int32)) (I : Nat → Int32) (A : Nat → Nat → Int32) (Z : Int64) (x3 : Int32) : rs sc 148 32 [some (.ref 1000000), some (.ref 0), some (.ref 26), some (.int x3)] [] [.int (nI 1)] (hp I A Z) = rs sc 148 167 [some (.ref 1000000), some (.ref 0), some (.ref 26), some (.int x3)] [] [] (hp I A Z) := s_L_law_0_32_1 sc I A Z x3 (nI 0)
set_option maxRecDepth 100000 in
theorem s_L_law_0_32_2_k (sc : Nat × (Nat → Int32)) (I : Nat → Int32) (A : Nat → Nat → Int32) (Z : Int64) (x3 : Int32) : rs sc 148 32 [some (.ref 1000000), some (.ref 0), some (.ref 26), some (.int x3)] [] [.int (nI 2)] (hp I A Z) = rs sc 148 180 [some (.ref 1000000), some (.ref 0), some (.ref 26), some (.int x3)] [] [] (hp I A Z) := s_L_law_0_32_2 sc I A Z x3 (nI 0)
set_option maxRecDepth 100000 in
theorem s_L_law_0_32_3_k (sc : Nat × (Nat → Int32)) (I : Nat → Int32) (A : Nat → Nat → Int32) (Z : Int64) (x3 : Int32) : rs sc 148 32 [some (.ref 1000000), some (.ref 0), some (.ref 26), some (.int x3)] [] [.int (nI 3)] (hp I A Z) = rs sc 148 193 [some (.ref 1000000), some (.ref 0), some (.ref 26), some (.int x3)] [] [] (hp I A Z) := s_L_law_0_32_3 sc I A Z x3 (nI 0)
set_option maxRecDepth 100000 in
theorem s_L_law_0_32_4_k (sc : Nat × (Nat → Int32)) (I : Nat → Int32) (A : Nat → Nat → Int32) (Z : Int64) (x3 : Int32) : rs sc 148 32 [some (.ref 1000000), some (.ref 0), some (.ref 26), some (.int x3)] [] [.int (nI 4)] (hp I A Z) = rs sc 148 206 [some (.ref 1000000), some (.ref 0), some (.ref 26), some (.int x3)] [] [] (hp I A Z) := s_L_law_0_32_4 sc I A Z x3 (nI 0)
set_option maxRecDepth 100000 in
theorem s_L_law_0_32_5_k (sc : Nat × (Nat → Int32)) (I : Nat → Int32) (A : Nat → Nat → Int32) (Z : Int64) (x3 : Int32) : rs sc 148 32 [some (.ref 1000000), some (.ref 0), some (.ref 26), some (.int x3)] [] [.int (nI 5)] (hp I A Z) = rs sc 148 239 [some (.ref 1000000), some (.ref 0), some (.ref 26), some (.int x3)] [] [] (hp I A Z) := s_L_law_0_32_5 sc I A Z x3 (nI 0)
set_option maxRecDepth 100000 in
theorem s_L_law_0_32_6_k (sc : Nat × (Nat → Int32)) (I : Nat → Int32) (A : Nat → Nat → Int32) (Z : Int64) (x3 : Int32) : rs sc 148 32 [some (.ref 1000000), some (.ref 0), some (.ref 26), some (.int x3)] [] [.int (nI 6)] (hp I A Z) = rs sc 148 272 [some (.ref 1000000), some (.ref 0), some (.ref 26), some (.int x3)] [] [] (hp I A Z) := s_L_law_0_32_6 sc I A Z x3 (nI 0)
set_option maxRecDepth 100000 in
theorem s_L_law_0_32_7_k (sc : Nat × (Nat → Int32)) (I : Nat → Int32) (A : Nat → Nat → Int32) (Z : Int64) (x3 : Int32) : rs sc 148 32 [some (.ref 1000000), some (.ref 0), some (.ref 26), some (.int x3)] [] [.int (nI 7)] (hp I A Z) = rs sc 148 311 [some (.ref 1000000), some (.ref 0), some (.ref 26), some (.int x3)] [] [] (hp I A Z) := s_L_law_0_32_7 sc I A Z x3 (nI 0)
set_option maxRecDepth 100000 in
theorem s_L_law_0_32_8_k (sc : Nat × (Nat → Int32)) (I : Nat → Int32) (A : Nat → Nat → Int32) (Z : Int64) (x3 : Int32) : rs sc 148 32 [some (.ref 1000000), some (.ref 0), some (.ref 26), some (.int x3)] [] [.int (nI 8)] (hp I A Z) = rs sc 148 344 [some (.ref 1000000), some (.ref 0), some (.ref 26), some (.int x3)] [] [] (hp I A Z) := s_L_law_0_32_8 sc I A Z x3 (nI 0)
set_option maxRecDepth 100000 in
theorem s_L_law_0_32_9_k (sc : Nat × (Nat → Int32)) (I : Nat → Int32) (A : Nat → Nat → Int32) (Z : Int64) (x3 : Int32) : rs sc 148 32 [some (.ref 1000000), some (.ref 0), some (.ref 26), some (.int x3)] [] [.int (nI 9)] (hp I A Z) = rs sc 148 377 [some (.ref 1000000), some (.ref 0), some (.ref 26), some (.int x3)] [] [] (hp I A Z) := s_L_law_0_32_9 sc I A Z x3 (nI 0)
set_option maxRecDepth 100000 in
theorem s_L_law_0_32_10_k (sc : Nat × (Nat → Int32)) (I : Nat → Int32) (A : Nat → Nat → Int32) (Z : Int64) (x3 : Int32) : rs sc 148 32 [some (.ref 1000000), some (.ref 0), some (.ref 26), some (.int x3)] [] [.int (nI 10)] (hp I A Z) = rs sc 148 410 [some (.ref 1000000), some (.ref 0), some (.ref 26), some (.int x3)] [] [] (hp I A Z) := s_L_law_0_32_10 sc I A Z x3 (nI 0)
set_option maxRecDepth 100000 in
theorem s_L_law_0_32_11_k (sc : Nat × (Nat → Int32)) (I : Nat → Int32) (A : Nat → Nat → Int32) (Z : Int64) (x3 : Int32) : rs sc 148 32 [some (.ref 1000000), some (.ref 0), some (.ref 26), some (.int x3)] [] [.int (nI 11)] (hp I A Z) = rs sc 148 433 [some (.ref 1000000), some (.ref 0), some (.ref 26), some (.int x3)] [] [] (hp I A Z) := s_L_law_0_32_11 sc I A Z x3 (nI 0)
set_option maxRecDepth 100000 in
theorem s_L_law_0_32_12_k (sc : Nat × (Nat → Int32)) (I : Nat → Int32) (A : Nat → Nat → Int32) (Z : Int64) (x3 : Int32) : rs sc 148 32 [some (.ref 1000000), some (.ref 0), some (.ref 26), some (.int x3)] [] [.int (nI 12)] (hp I A Z) = rs sc 148 466 [some (.ref 1000000), some (.ref 0), some (.ref 26), some (.int x3)] [] [] (hp I A Z) := s_L_law_0_32_12 sc I A Z x3 (nI 0)
set_option maxRecDepth 100000 in
theorem s_L_law_0_32_13_k (sc : Nat × (Nat → Int32)) (I : Nat → Int32) (A : Nat → Nat → Int32) (Z : Int64) (x3 : Int32) : rs sc 148 32 [some (.ref 1000000), some (.ref 0), some (.ref 26), some (.int x3)] [] [.int (nI 13)] (hp I A Z) = rs sc 148 499 [some (.ref 1000000), some (.ref 0), some (.ref 26), some (.int x3)] [] [] (hp I A Z) := s_L_law_0_32_13 sc I A Z x3 (nI 0)
set_option maxRecDepth 100000 in
theorem s_L_law_0_32_14_k (sc : Nat × (Nat → Int32)) (I : Nat → Int32) (A : Nat → Nat → Int32) (Z : Int64) (x3 : Int32) : rs sc 148 32 [some (.ref 1000000), some (.ref 0), some (.ref 26), some (.int x3)] [] [.int (nI 14)] (hp I A Z) = rs sc 148 542 [some (.ref 1000000), some (.ref 0), some (.ref 26), some (.int x3)] [] [] (hp I A Z) := s_L_law_0_32_14 sc I A Z x3 (nI 0)
set_option maxRecDepth 100000 in
theorem s_L_law_0_32_15_k (sc : Nat × (Nat → Int32)) (I : Nat → Int32) (A : Nat → Nat → Int32) (Z : Int64) (x3 : Int32) : rs sc 148 32 [some (.ref 1000000), some (.ref 0), some (.ref 26), some (.int x3)] [] [.int (nI 15)] (hp I A Z) = rs sc 148 565 [some (.ref 1000000), some (.ref 0), some (.ref 26), some (.int x3)] [] [] (hp I A Z) := s_L_law_0_32_15 sc I A Z x3 (nI 0)
set_option maxRecDepth 100000 in
theorem s_L_law_0_32_16_k (sc : Nat × (Nat → Int32)) (I : Nat → Int32) (A : Nat → Nat → Int32) (Z : Int64) (x3 : Int32) : rs sc 148 32 [some (.ref 1000000), some (.ref 0), some (.ref 26), some (.int x3)] [] [.int (nI 16)] (hp I A Z) = rs sc 148 598 [some (.ref 1000000), some (.ref 0), some (.ref 26), some (.int x3)] [] [] (hp I A Z) := s_L_law_0_32_16 sc I A Z x3 (nI 0)
set_option maxRecDepth 100000 in
theorem s_L_law_0_32_17_k (sc : Nat × (Nat → Int32)) (I : Nat → Int32) (A : Nat → Nat → Int32) (Z : Int64) (x3 : Int32) : rs sc 148 32 [some (.ref 1000000), some (.ref 0), some (.ref 26), some (.int x3)] [] [.int (nI 17)] (hp I A Z) = rs sc 148 621 [some (.ref 1000000), some (.ref 0), some (.ref 26), some (.int x3)] [] [] (hp I A Z) := s_L_law_0_32_17 sc I A Z x3 (nI 0)
set_option maxRecDepth 100000 in
theorem s_L_law_0_32_18_k (sc : Nat × (Nat → Int32)) (I : Nat → Int32) (A : Nat → Nat → Int32) (Z : Int64) (x3 : Int32) : rs sc 148 32 [some (.ref 1000000), some (.ref 0), some (.ref 26), some (.int x3)] [] [.int (nI 18)] (hp I A Z) = rs sc 148 634 [some (.ref 1000000), some (.ref 0), some (.ref 26), some (.int x3)] [] [] (hp I A Z) := s_L_law_0_32_18 sc I A Z x3 (nI 0)
set_option maxRecDepth 100000 in
theorem s_L_law_0_32_19_k (sc : Nat × (Nat → Int32)) (I : Nat → Int32) (A : Nat → Nat → Int32) (Z : Int64) (x3 : Int32) : rs sc 148 32 [some (.ref 1000000), some (.ref 0), some (.ref 26), some (.int x3)] [] [.int (nI 19)] (hp I A Z) = rs sc 148 667 [some (.ref 1000000), some (.ref 0), some (.ref 26), some (.int x3)] [] [] (hp I A Z) := s_L_law_0_32_19 sc I A Z x3 (nI 0)
set_option maxRecDepth 100000 in
theorem s_L_law_0_32_20_k (sc : Nat × (Nat → Int32)) (I : Nat → Int32) (A : Nat → Nat → Int32) (Z : Int64) (x3 : Int32) : rs sc 148 32 [some (.ref 1000000), some (.ref 0), some (.ref 26), some (.int x3)] [] [.int (nI 20)] (hp I A Z) = rs sc 148 710 [some (.ref 1000000), some (.ref 0), some (.ref 26), some (.int x3)] [] [] (hp I A Z) := s_L_law_0_32_20 sc I A Z x3 (nI 0)
set_option maxRecDepth 100000 in
theorem s_L_law_0_32_21_k (sc : Nat × (Nat → Int32)) (I : Nat → Int32) (A : Nat → Nat → Int32) (Z : Int64) (x3 : Int32) : rs sc 148 32 [some (.ref 1000000), some (.ref 0), some (.ref 26), some (.int x3)] [] [.int (nI 21)] (hp I A Z) = rs sc 148 723 [some (.ref 1000000), some (.ref 0), some (.ref 26), some (.int x3)] [] [] (hp I A Z) := s_L_law_0_32_21 sc I A Z x3 (nI 0)
set_option maxRecDepth 100000 in
theorem s_L_law_0_32_22_k (sc : Nat × (Nat → Int32)) (I : Nat → Int32) (A : Nat → Nat → Int32) (Z : Int64) (x3 : Int32) : rs sc 148 32 [some (.ref 1000000), some (.ref 0), some (.ref 26), some (.int x3)] [] [.int (nI 22)] (hp I A Z) = rs sc 148 736 [some (.ref 1000000), some (.ref 0), some (.ref 26), some (.int x3)] [] [] (hp I A Z) := s_L_law_0_32_22 sc I A Z x3 (nI 0)
set_option maxRecDepth 100000 in
theorem s_L_law_0_32_23_k (sc : Nat × (Nat → Int32)) (I : Nat → Int32) (A : Nat → Nat → Int32) (Z : Int64) (x3 : Int32) : rs sc 148 32 [some (.ref 1000000), some (.ref 0), some (.ref 26), some (.int x3)] [] [.int (nI 23)] (hp I A Z) = rs sc 148 759 [some (.ref 1000000), some (.ref 0), some (.ref 26), some (.int x3)] [] [] (hp I A Z) := s_L_law_0_32_23 sc I A Z x3 (nI 0)
