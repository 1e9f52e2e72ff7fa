set_option maxRecDepth 100000 in
theorem ck_79_0 : T_79_0.all (chkE 79) = true := by decide +kernel
set_option maxRecDepth 100000 in
theorem ck_80_0 : T_80_0.all (chkE 80) = true := by decide +kernel
set_option maxRecDepth 100000 in
theorem ck_81_0 : T_81_0.all (chkE 81) = true := by decide +kernel
set_option maxRecDepth 100000 in
theorem ck_82_0 : T_82_0.all (chkE 82) = true := by decide +kernel
set_option maxRecDepth 100000 in
theorem ck_83_0 : T_83_0.all (chkE 83) = true := by decide +kernel
set_option maxRecDepth 100000 in
theorem ck_84_0 : T_84_0.all (chkE 84) = true := by decide +kernel
set_option maxRecDepth 100000 in
theorem ck_85_0 : T_85_0.all (chkE 85) = true := by decide +kernel
set_option maxRecDepth 100000 in
theorem ck_85_1 : T_85_1.all (chkE 85) = true := by decide +kernel
set_option maxRecDepth 100000 in
theorem ck_86_0 : T_86_0.all (chkE 86) = true := by decide +kernel
set_option maxRecDepth 100000 in
theorem ck_87_0 : T_87_0.all (chkE 87) = true := by decide +kernel
set_option maxRecDepth 100000 in
theorem ck_88_0 : T_88_0.all (chkE 88) = true := by decide +kernel
set_option maxRecDepth 100000 in
theorem ck_89_0 : T_89_0.all (chkE 89) = true := by decide +kernel
set_option maxRecDepth 100000 in
theorem ck_90_0 : T_90_0.all (chkE 90) = true := by decide +kernel
set_option maxRecDepth 100000 in
theorem ck_90_1 : T_90_1.all (chkE 90) = true := by decide +kernel
set_option maxRecDepth 100000 in
theorem ck_91_0 : T_91_0.all (chkE 91) = true := by decide +kernel
set_option maxRecDepth 100000 in
theorem ck_92_0 : T_92_0.all (chkE 92) = true := by decide +kernel
set_option maxRecDepth 100000 in
theorem ck_93_0 : T_93_0.all (chkE 93) = true := by decide +kernel
set_option maxRecDepth 100000 in
theorem ck_94_0 : T_94_0.all (chkE 94) = true := by decide +kernel
set_option maxRecDepth 100000 in
theorem ck_94_1 : T_94_1.all (chkE 94) = true := by decide +kernel
set_option maxRecDepth 100000 in
theorem ck_95_0 : T_95_0.all (chkE 95) = true := by decide +kernel
set_option maxRecDepth 100000 in
theorem ck_96_0 : T_96_0.all (chkE 96) = true := by decide +kernel
set_option maxRecDepth 100000 in
theorem ck_97_0 : T_97_0.all (chkE 97) = true := by decide +kernel
set_option maxRecDepth 100000 in
theorem ck_97_1 : T_97_1.all (chkE 97) = true := by decide +kernel
set_option maxRecDepth 100000 in
theorem ck_98_0 : T_98_0.all (chkE 98) = true := by decide +kernel
set_option maxRecDepth 100000 in
theorem ck_99_0 : T_99_0.all (chkE 99) = true := by decide +kernel
set_option maxRecDepth 100000 in
theorem ck_99_1 : T_99_1.all (chkE 99) = true := by decide +kernel
set_option maxRecDepth 100000 in
theorem ck_99_2 : T_99_2.all (chkE 99) = true := by decide +kernel
set_option maxRecDepth 100000 in
theorem ck_100_0 : T_100_0.all (chkE 100) = true := by decide +kernel
set_option maxRecDepth 100000 in
theorem ck_101_0 : T_101_0.all (chkE 101) = true := by decide +kernel
set_option maxRecDepth 100000 in
theorem ck_102_0 : T_102_0.all (chkE 102) = true := by decide +kernel
set_option maxRecDepth 100000 in
theorem ck_103_0 : T_103_0.all (chkE 103) = true := by decide +kernel
set_option maxRecDepth 100000 in
theorem ck_104_0 : T_104_0.all (chkE 104) = true := by decide +kernel
set_option maxRecDepth 100000 in
theorem ck_104_1 : T_104_1.all (chkE 104) = true := by decide +kernel
set_option maxRecDepth 100000 in
theorem ck_104_2 : T_104_2.all (chkE 104) = true := by decide +kernel
set_option maxRecDepth 100000 in
theorem ck_105_0 : T_105_0.all (chkE 105) = true := by decide +kernel
set_option maxRecDepth 100000 in
theorem ck_106_0 : T_106_0.all (chkE 106) = true := by decide +kernel
set_option maxRecDepth 100000 in
theorem ck_106_1 : T_106_1.all (chkE 106) = true := by decide +kernel
set_option maxRecDepth 100000 in
theorem ck_107_0 : T_107_0.all (chkE 107) = true := by decide +kernel
set_option maxRecDepth 100000 in
theorem ck_108_0 : T_108_0.all (chkE 108) = true := by decide +kernel
set_option maxRecDepth 100000 in
theorem ck_108_1 : T_108_1.all (chkE 108) = true := by decide +kernel
set_option maxRecDepth 100000 in
theorem ck_109_0 : T_109_0.all (chkE 109) = true := by decide +kernel
set_option maxRecDepth 100000 in
theorem ck_110_0 : T_110_0.all (chkE 110) = true := by decide +kernel
set_option maxRecDepth 100000 in
theorem ck_110_1 : T_110_1.all (chkE 110) = true := by decide +kernel
set_option maxRecDepth 100000 in
theorem ck_111_0 : T_111_0.all (chkE 111) = true := by decide +kernel
set_option maxRecDepth 100000 in
theorem ck_112_0 : T_112_0.all (chkE 112) = true := by decide +kernel
set_option maxRecDepth 100000 in
theorem ck_112_1 : T_112_1.all (chkE 112) = true := by decide +kernel
set_option maxRecDepth 100000 in
theorem ck_113_0 : T_113_0.all (chkE 113) = true := by decide +kernel
set_option maxRecDepth 100000 in
theorem ck_114_0 : T_114_0.all (chkE 114) = true := by decide +kernel
set_option maxRecDepth 100000 in
theorem ck_115_0 : T_115_0.all (chkE 115) = true := by decide +kernel
set_option maxRecDepth 100000 in
theorem ck_115_1 : T_115_1.all (chkE 115) = true := by decide +kernel
set_option maxRecDepth 100000 in
theorem ck_116_0 : T_116_0.all (chkE 116) = true := by decide +kernel
set_option maxRecDepth 100000 in
theorem ck_116_1 : T_116_1.all (chkE 116) = true := by decide +kernel
set_option maxRecDepth 100000 in
theorem ck_116_2 : T_116_2.all (chkE 116) = true := by decide +kernel
set_option maxRecDepth 100000 in
theorem ck_116_3 : T_116_3.all (chkE 116) = true := by decide +kernel
set_option maxRecDepth 100000 in
theorem ck_117_0 : T_117_0.all (chkE 117) = true := by decide +kernel
set_option maxRecDepth 100000 in
theorem ck_117_1 : T_117_1.all (chkE 117) = true := by decide +kernel
set_option maxRecDepth 100000 in
theorem ck_118_0 : T_118_0.all (chkE 118) = true := by decide +kernel
set_option maxRecDepth 100000 in
theorem ck_119_0 : T_119_0.all (chkE 119) = true := by decide +kernel
set_option maxRecDepth 100000 in
theorem ck_119_1 : T_119_1.all (chkE 119) = true := by decide +kernel
set_option maxRecDepth 100000 in
theorem ck_120_0 : T_120_0.all (chkE 120) = true := by decide +kernel
set_option maxRecDepth 100000 in
theorem ck_121_0 : T_121_0.all (chkE 121) = true := by decide +kernel
set_option maxRecDepth 100000 in
theorem ck_122_0 : T_122_0.all (chkE 122) = true := by decide +kernel
set_option maxRecDepth 100000 in
theorem ck_123_0 : T_123_0.all (chkE 123) = true := by decide +kernel
set_option maxRecDepth 100000 in
theorem ck_123_1 : T_123_1.all (chkE 123) = true := by decide +kernel
set_option maxRecDepth 100000 in
theorem ck_124_0 : T_124_0.all (chkE 124) = true := by decide +kernel
set_option maxRecDepth 100000 in
theorem ck_124_1 : T_124_1.all (chkE 124) = true := by decide +kernel
set_option maxRecDepth 100000 in
theorem ck_125_0 : T_125_0.all (chkE 125) = true := by decide +kernel
set_option maxRecDepth 100000 in
theorem ck_126_0 : T_126_0.all (chkE 126) = true := by decide +kernel
set_option maxRecDepth 100000 in
theorem ck_127_0 : T_127_0.all (chkE 127) = true := by decide +kernel
set_option maxRecDepth 100000 in
theorem ck_127_1 : T_127_1.all (chkE 127) = true := by decide +kernel
set_option maxRecDepth 100000 in
theorem ck_127_2 : T_127_2.all (chkE 127) = true := by decide +kernel
set_option maxRecDepth 100000 in
theorem ck_127_3 : T_127_3.all (chkE 127) = true := by decide +kernel
set_option maxRecDepth 100000 in
theorem ck_128_0 : T_128_0.all (chkE 128) = true := by decide +kernel
set_option maxRecDepth 100000 in
theorem ck_129_0 : T_129_0.all (chkE 129) = true := by decide +kernel
set_option maxRecDepth 100000 in
theorem ck_130_0 : T_130_0.all (chkE 130) = true := by decide +kernel
set_option maxRecDepth 100000 in
theorem ck_130_1 : T_130_1.all (chkE 130) = true := by decide +kernel
set_option maxRecDepth 100000 in
theorem ck_130_2 : T_130_2.all (chkE 130) = true := by decide +kernel
set_option maxRecDepth 100000 in
theorem ck_131_0 : T_131_0.all (chkE 131) = true := by decide +kernel
set_option maxRecDepth 100000 in
theorem ck_132_0 : T_132_0.all (chkE 132) = true := by decide +kernel
set_option maxRecDepth 100000 in
theorem ck_133_0 : T_133_0.all (chkE 133) = true := by decide +kernel
set_option maxRecDepth 100000 in
theorem ck_133_1 : T_133_1.all (chkE 133) = true := by decide +kernel
set_option maxRecDepth 100000 in
theorem ck_134_0 : T_134_0.all (chkE 134) = true := by decide +kernel
set_option maxRecDepth 100000 in
theorem ck_134_1 : T_134_1.all (chkE 134) = true := by decide +kernel
set_option maxRecDepth 100000 in
theorem ck_135_0 : T_135_0.all (chkE 135) = true := by decide +kernel
set_option maxRecDepth 100000 in
theorem ck_136_0 : T_136_0.all (chkE 136) = true := by decide +kernel
set_option maxRecDepth 100000 in
theorem ck_137_0 : T_137_0.all (chkE 137) = true := by decide +kernel
set_option maxRecDepth 100000 in
theorem ck_138_0 : T_138_0.all (chkE 138) = true := by decide +kernel
set_option maxRecDepth 100000 in
theorem ck_138_1 : T_138_1.all (chkE 138) = true := by decide +kernel
set_option maxRecDepth 100000 in
theorem ck_138_2 : T_138_2.all (chkE 138) = true := by decide +kernel
set_option maxRecDepth 100000 in
theorem ck_138_3 : T_138_3.all (chkE 138) = true := by decide +kernel
set_option maxRecDepth 100000 in
theorem ck_139_0 : T_139_0.all (chkE 139) = true := by decide +kernel
set_option maxRecDepth 100000 in
theorem ck_139_1 : T_139_1.all (chkE 139) = true := by decide +kernel
set_option maxRecDepth 100000 in
theorem ck_140_0 : T_140_0.all (chkE 140) = true := by decide +kernel
set_option maxRecDepth 100000 in
theorem ck_141_0 : T_141_0.all (chkE 141) = true := by decide +kernel
set_option maxRecDepth 100000 in
theorem ck_142_0 : T_142_0.all (chkE 142) = true := by decide +kernel
set_option maxRecDepth 100000 in
theorem ck_143_0 : T_143_0.all (chkE 143) = true := by decide +kernel
set_option maxRecDepth 100000 in
theorem ck_144_0 : T_144_0.all (chkE 144) = true := by decide +kernel
set_option maxRecDepth 100000 in
theorem ck_145_0 : T_145_0.all (chkE 145) = true := by decide +kernel
set_option maxRecDepth 100000 in
theorem ck_146_0 : T_146_0.all (chkE 146) = true := by decide +kernel
set_option maxRecDepth 100000 in
theorem ck_147_0 : T_147_0.all (chkE 147) = true := by decide +kernel
set_option maxRecDepth 100000 in
theorem ck_148_0 : T_148_0.all (chkE 148) = true := by decide +kernel
set_option maxRecDepth 100000 in
theorem ck_148_1 : T_148_1.all (chkE 148) = true := by decide +kernel
set_option maxRecDepth 100000 in
theorem ck_148_2 : T_148_2.all (chkE 148) = true := by decide +kernel
set_option maxRecDepth 100000 in
theorem ck_148_3 : T_148_3.all (chkE 148) = true := by decide +kernel
set_option maxRecDepth 100000 in
theorem ck_148_4 : T_148_4.all (chkE 148) = true := by decide +kernel
set_option maxRecDepth 100000 in
theorem ck_148_5 : T_148_5.all (chkE 148) = true := by decide +kernel
set_option maxRecDepth 100000 in
theorem ck_148_6 : T_148_6.all (chkE 148) = true := by decide +kernel
set_option maxRecDepth 100000 in
theorem ck_148_7 : T_148_7.all (chkE 148) = true := by decide +kernel
set_option maxRecDepth 100000 in
theorem ck_148_8 : T_148_8.all (chkE 148) = true := by decide +kernel
set_option maxRecDepth 100000 in
theorem ck_148_9 : T_148_9.all (chkE 148) = true := by decide +kernel
set_option maxRecDepth 100000 in
theorem ck_148_10 : T_148_10.all (chkE 148) = true := by decide +kernel
set_option maxRecDepth 100000 in
theorem ck_148_11 : T_148_11.all (chkE 148) = true := by decide +kernel
set_option maxRecDepth 100000 in
theorem ck_148_12 : T_148_12.all (chkE 148) = true := by decide +kernel
theorem ck_0 : T_0.all (chkE 0) = true := by
  simp only [T_0, List.all_append, Bool.and_eq_true]
  exact ck_0_0
theorem ck_1 : T_1.all (chkE 1) = true := by
  simp only [T_1, List.all_append, Bool.and_eq_true]
  exact ck_1_0
theorem ck_2 : T_2.all (chkE 2) = true := by
  simp only [T_2, List.all_append, Bool.and_eq_true]
  exact ⟨ck_2_0, ck_2_1⟩
theorem ck_3 : T_3.all (chkE 3) = true := by
  simp only [T_3, List.all_append, Bool.and_eq_true]
  exact ck_3_0
theorem ck_4 : T_4.all (chkE 4) = true := by
  simp only [T_4, List.all_append, Bool.and_eq_true]
  exact ck_4_0
theorem ck_5 : T_5.all (chkE 5) = true := by
  simp only [T_5, List.all_append, Bool.and_eq_true]
  exact ck_5_0
theorem ck_6 : T_6.all (chkE 6) = true := by
  simp only [T_6, List.all_append, Bool.and_eq_true]
  exact ck_6_0
theorem ck_7 : T_7.all (chkE 7) = true := by
  simp only [T_7, List.all_append, Bool.and_eq_true]
  exact ck_7_0
theorem ck_8 : T_8.all (chkE 8) = true := by
  simp only [T_8, List.all_append, Bool.and_eq_true]
  exact ck_8_0
theorem ck_9 : T_9.all (chkE 9) = true := by
  simp only [T_9, List.all_append, Bool.and_eq_true]
  exact ck_9_0
theorem ck_10 : T_10.all (chkE 10) = true := by
  simp only [T_10, List.all_append, Bool.and_eq_true]
  exact ck_10_0
theorem ck_11 : T_11.all (chkE 11) = true := by
  simp only [T_11, List.all_append, Bool.and_eq_true]
  exact ⟨ck_11_0, ck_11_1⟩
theorem ck_12 : T_12.all (chkE 12) = true := by
  simp only [T_12, List.all_append, Bool.and_eq_true]
  exact ck_12_0
theorem ck_13 : T_13.all (chkE 13) = true := by
  simp only [T_13, List.all_append, Bool.and_eq_true]
  exact ck_13_0
theorem ck_14 : T_14.all (chkE 14) = true := by
  simp only [T_14, List.all_append, Bool.and_eq_true]
  exact ck_14_0
theorem ck_15 : T_15.all (chkE 15) = true := by
  simp only [T_15, List.all_append, Bool.and_eq_true]
  exact ck_15_0
theorem ck_16 : T_16.all (chkE 16) = true := by
  simp only [T_16, List.all_append, Bool.and_eq_true]
  exact ck_16_0
theorem ck_17 : T_17.all (chkE 17) = true := by
  simp only [T_17, List.all_append, Bool.and_eq_true]
  exact ⟨ck_17_0, ck_17_1⟩
theorem ck_18 : T_18.all (chkE 18) = true := by
  simp only [T_18, List.all_append, Bool.and_eq_true]
  exact ck_18_0
theorem ck_19 : T_19.all (chkE 19) = true := by
  simp only [T_19, List.all_append, Bool.and_eq_true]
  exact ck_19_0
theorem ck_20 : T_20.all (chkE 20) = true := by
  simp only [T_20, List.all_append, Bool.and_eq_true]
  exact ck_20_0
theorem ck_21 : T_21.all (chkE 21) = true := by
  simp only [T_21, List.all_append, Bool.and_eq_true]
  exact ck_21_0
theorem ck_22 : T_22.all (chkE 22) = true := by
  simp only [T_22, List.all_append, Bool.and_eq_true]
  exact ck_22_0
theorem ck_23 : T_23.all (chkE 23) = true := by
  simp only [T_23, List.all_append, Bool.and_eq_true]
  exact ck_23_0
theorem ck_24 : T_24.all (chkE 24) = true := by
  simp only [T_24, List.all_append, Bool.and_eq_true]
  exact ck_24_0
theorem ck_25 : T_25.all (chkE 25) = true := by
  simp only [T_25, List.all_append, Bool.and_eq_true]
  exact ⟨ck_25_0, ck_25_1⟩
theorem ck_26 : T_26.all (chkE 26) = true := by
  simp only [T_26, List.all_append, Bool.and_eq_true]
  exact ck_26_0
theorem ck_27 : T_27.all (chkE 27) = true := by
  simp only [T_27, List.all_append, Bool.and_eq_true]
  exact ck_27_0
theorem ck_28 : T_28.all (chkE 28) = true := by
  simp only [T_28, List.all_append, Bool.and_eq_true]
  exact ⟨ck_28_0, ck_28_1⟩
theorem ck_29 : T_29.all (chkE 29) = true := by
  simp only [T_29, List.all_append, Bool.and_eq_true]
  exact ck_29_0
theorem ck_30 : T_30.all (chkE 30) = true := by
  simp only [T_30, List.all_append, Bool.and_eq_true]
  exact ck_30_0
theorem ck_31 : T_31.all (chkE 31) = true := by
  simp only [T_31, List.all_append, Bool.and_eq_true]
  exact ck_31_0
theorem ck_32 : T_32.all (chkE 32) = true := by
  simp only [T_32, List.all_append, Bool.and_eq_true]
  exact ck_32_0
theorem ck_33 : T_33.all (chkE 33) = true := by
  simp only [T_33, List.all_append, Bool.and_eq_true]
  exact ck_33_0
theorem ck_34 : T_34.all (chkE 34) = true := by
  simp only [T_34, List.all_append, Bool.and_eq_true]
  exact ck_34_0
theorem ck_35 : T_35.all (chkE 35) = true := by
  simp only [T_35, List.all_append, Bool.and_eq_true]
  exact ck_35_0
theorem ck_36 : T_36.all (chkE 36) = true := by
  simp only [T_36, List.all_append, Bool.and_eq_true]
  exact ck_36_0
theorem ck_37 : T_37.all (chkE 37) = true := by
  simp only [T_37, List.all_append, Bool.and_eq_true]
  exact ck_37_0
theorem ck_38 : T_38.all (chkE 38) = true := by
  simp only [T_38, List.all_append, Bool.and_eq_true]
  exact ⟨ck_38_0, ck_38_1⟩
theorem ck_39 : T_39.all (chkE 39) = true := by
  simp only [T_39, List.all_append, Bool.and_eq_true]
  exact ck_39_0
theorem ck_40 : T_40.all (chkE 40) = true := by
  simp only [T_40, List.all_append, Bool.and_eq_true]
  exact ck_40_0
theorem ck_41 : T_41.all (chkE 41) = true := by
  simp only [T_41, List.all_append, Bool.and_eq_true]
  exact ck_41_0
theorem ck_42 : T_42.all (chkE 42) = true := by
  simp only [T_42, List.all_append, Bool.and_eq_true]
  exact ck_42_0
theorem ck_43 : T_43.all (chkE 43) = true := by
  simp only [T_43, List.all_append, Bool.and_eq_true]
  exact ck_43_0
theorem ck_44 : T_44.all (chkE 44) = true := by
  simp only [T_44, List.all_append, Bool.and_eq_true]
  exact ck_44_0
theorem ck_45 : T_45.all (chkE 45) = true := by
  simp only [T_45, List.all_append, Bool.and_eq_true]
  exact ck_45_0
theorem ck_46 : T_46.all (chkE 46) = true := by
  simp only [T_46, List.all_append, Bool.and_eq_true]
  exact ck_46_0
theorem ck_47 : T_47.all (chkE 47) = true := by
  simp only [T_47, List.all_append, Bool.and_eq_true]
  exact ⟨ck_47_0, ck_47_1⟩
theorem ck_48 : T_48.all (chkE 48) = true := by
  simp only [T_48, List.all_append, Bool.and_eq_true]
  exact ⟨ck_48_0, ck_48_1⟩
theorem ck_49 : T_49.all (chkE 49) = true := by
  simp only [T_49, List.all_append, Bool.and_eq_true]
  exact ck_49_0
theorem ck_50 : T_50.all (chkE 50) = true := by
  simp only [T_50, List.all_append, Bool.and_eq_true]
  exact ck_50_0
theorem ck_51 : T_51.all (chkE 51) = true := by
  simp only [T_51, List.all_append, Bool.and_eq_true]
  exact ck_51_0
theorem ck_52 : T_52.all (chkE 52) = true := by
  simp only [T_52, List.all_append, Bool.and_eq_true]
  exact ck_52_0
theorem ck_53 : T_53.all (chkE 53) = true := by
  simp only [T_53, List.all_append, Bool.and_eq_true]
  exact ck_53_0
theorem ck_54 : T_54.all (chkE 54) = true := by
  simp only [T_54, List.all_append, Bool.and_eq_true]
  exact ck_54_0
theorem ck_55 : T_55.all (chkE 55) = true := by
  simp only [T_55, List.all_append, Bool.and_eq_true]
  exact ck_55_0
theorem ck_56 : T_56.all (chkE 56) = true := by
  simp only [T_56, List.all_append, Bool.and_eq_true]
  exact ck_56_0
theorem ck_57 : T_57.all (chkE 57) = true := by
  simp only [T_57, List.all_append, Bool.and_eq_true]
  exact ck_57_0
theorem ck_58 : T_58.all (chkE 58) = true := by
  simp only [T_58, List.all_append, Bool.and_eq_true]
  exact ck_58_0
theorem ck_59 : T_59.all (chkE 59) = true := by
  simp only [T_59, List.all_append, Bool.and_eq_true]
  exact ck_59_0
theorem ck_60 : T_60.all (chkE 60) = true := by
  simp only [T_60, List.all_append, Bool.and_eq_true]
  exact ck_60_0
theorem ck_61 : T_61.all (chkE 61) = true := by
  simp only [T_61, List.all_append, Bool.and_eq_true]
  exact ⟨ck_61_0, ck_61_1⟩
theorem ck_62 : T_62.all (chkE 62) = true := by
  simp only [T_62, List.all_append, Bool.and_eq_true]
  exact ⟨ck_62_0, ck_62_1⟩
theorem ck_63 : T_63.all (chkE 63) = true := by
  simp only [T_63, List.all_append, Bool.and_eq_true]
  exact ⟨ck_63_0, ck_63_1⟩
theorem ck_64 : T_64.all (chkE 64) = true := by
  simp only [T_64, List.all_append, Bool.and_eq_true]
  exact ⟨ck_64_0, ck_64_1⟩
theorem ck_65 : T_65.all (chkE 65) = true := by
  simp only [T_65, List.all_append, Bool.and_eq_true]
  exact ck_65_0
theorem ck_66 : T_66.all (chkE 66) = true := by
  simp only [T_66, List.all_append, Bool.and_eq_true]
  exact ck_66_0
theorem ck_67 : T_67.all (chkE 67) = true := by
  simp only [T_67, List.all_append, Bool.and_eq_true]
  exact ck_67_0
theorem ck_68 : T_68.all (chkE 68) = true := by
  simp only [T_68, List.all_append, Bool.and_eq_true]
  exact ⟨ck_68_0, ck_68_1⟩
theorem ck_69 : T_69.all (chkE 69) = true := by
  simp only [T_69, List.all_append, Bool.and_eq_true]
  exact ck_69_0
theorem ck_70 : T_70.all (chkE 70) = true := by
  simp only [T_70, List.all_append, Bool.and_eq_true]
  exact ck_70_0
theorem ck_71 : T_71.all (chkE 71) = true := by
  simp only [T_71, List.all_append, Bool.and_eq_true]
  exact ⟨ck_71_0, ck_71_1⟩
theorem ck_72 : T_72.all (chkE 72) = true := by
  simp only [T_72, List.all_append, Bool.and_eq_true]
  exact ⟨⟨⟨⟨ck_72_0, ck_72_1⟩, ck_72_2⟩, ck_72_3⟩, ck_72_4⟩
theorem ck_73 : T_73.all (chkE 73) = true := by
  simp only [T_73, List.all_append, Bool.and_eq_true]
  exact ck_73_0
theorem ck_74 : T_74.all (chkE 74) = true := by
  simp only [T_74, List.all_append, Bool.and_eq_true]
  exact ck_74_0
theorem ck_75 : T_75.all (chkE 75) = true := by
  simp only [T_75, List.all_append, Bool.and_eq_true]
  exact ck_75_0
theorem ck_76 : T_76.all (chkE 76) = true := by
  simp only [T_76, List.all_append, Bool.and_eq_true]
  exact ⟨ck_76_0, ck_76_1⟩
theorem ck_77 : T_77.all (chkE 77) = true := by
  simp only [T_77, List.all_append, Bool.and_eq_true]
  exact ck_77_0
theorem ck_78 : T_78.all (chkE 78) = true := by
  simp only [T_78, List.all_append, Bool.and_eq_true]
  exact ck_78_0
theorem ck_79 : T_79.all (chkE 79) = true := by
  simp only [T_79, List.all_append, Bool.and_eq_true]
  exact ck_79_0
theorem ck_80 : T_80.all (chkE 80) = true := by
  simp only [T_80, List.all_append, Bool.and_eq_true]
  exact ck_80_0
theorem ck_81 : T_81.all (chkE 81) = true := by
  simp only [T_81, List.all_append, Bool.and_eq_true]
  exact ck_81_0
theorem ck_82 : T_82.all (chkE 82) = true := by
  simp only [T_82, List.all_append, Bool.and_eq_true]
  exact ck_82_0
theorem ck_83 : T_83.all (chkE 83) = true := by
  simp only [T_83, List.all_append, Bool.and_eq_true]
  exact ck_83_0
theorem ck_84 : T_84.all (chkE 84) = true := by
  simp only [T_84, List.all_append, Bool.and_eq_true]
  exact ck_84_0
theorem ck_85 : T_85.all (chkE 85) = true := by
  simp only [T_85, List.all_append, Bool.and_eq_true]
  exact ⟨ck_85_0, ck_85_1⟩
theorem ck_86 : T_86.all (chkE 86) = true := by
  simp only [T_86, List.all_append, Bool.and_eq_true]
  exact ck_86_0
theorem ck_87 : T_87.all (chkE 87) = true := by
  simp only [T_87, List.all_append, Bool.and_eq_true]
  exact ck_87_0
theorem ck_88 : T_88.all (chkE 88) = true := by
  simp only [T_88, List.all_append, Bool.and_eq_true]
  exact ck_88_0
theorem ck_89 : T_89.all (chkE 89) = true := by
  simp only [T_89, List.all_append, Bool.and_eq_true]
  exact ck_89_0
theorem ck_90 : T_90.all (chkE 90) = true := by
  simp only [T_90, List.all_append, Bool.and_eq_true]
  exact ⟨ck_90_0, ck_90_1⟩
theorem ck_91 : T_91.all (chkE 91) = true := by
  simp only [T_91, List.all_append, Bool.and_eq_true]
  exact ck_91_0
theorem ck_92 : T_92.all (chkE 92) = true := by
  simp only [T_92, List.all_append, Bool.and_eq_true]
  exact ck_92_0
theorem ck_93 : T_93.all (chkE 93) = true := by
  simp only [T_93, List.all_append, Bool.and_eq_true]
  exact ck_93_0
theorem ck_94 : T_94.all (chkE 94) = true := by
  simp only [T_94, List.all_append, Bool.and_eq_true]
  exact ⟨ck_94_0, ck_94_1⟩
theorem ck_95 : T_95.all (chkE 95) = true := by
  simp only [T_95, List.all_append, Bool.and_eq_true]
  exact ck_95_0
theorem ck_96 : T_96.all (chkE 96) = true := by
  simp only [T_96, List.all_append, Bool.and_eq_true]
  exact ck_96_0
theorem ck_97 : T_97.all (chkE 97) = true := by
  simp only [T_97, List.all_append, Bool.and_eq_true]
  exact ⟨ck_97_0, ck_97_1⟩
theorem ck_98 : T_98.all (chkE 98) = true := by
  simp only [T_98, List.all_append, Bool.and_eq_true]
  exact ck_98_0
theorem ck_99 : T_99.all (chkE 99) = true := by
  simp only [T_99, List.all_append, Bool.and_eq_true]
  exact ⟨⟨ck_99_0, ck_99_1⟩, ck_99_2⟩
theorem ck_100 : T_100.all (chkE 100) = true := by
  simp only [T_100, List.all_append, Bool.and_eq_true]
  exact ck_100_0
theorem ck_101 : T_101.all (chkE 101) = true := by
  simp only [T_101, List.all_append, Bool.and_eq_true]
  exact ck_101_0
theorem ck_102 : T_102.all (chkE 102) = true := by
  simp only [T_102, List.all_append, Bool.and_eq_true]
  exact ck_102_0
theorem ck_103 : T_103.all (chkE 103) = true := by
  simp only [T_103, List.all_append, Bool.and_eq_true]
  exact ck_103_0
theorem ck_104 : T_104.all (chkE 104) = true := by
  simp only [T_104, List.all_append, Bool.and_eq_true]
  exact ⟨⟨ck_104_0, ck_104_1⟩, ck_104_2⟩
theorem ck_105 : T_105.all (chkE 105) = true := by
  simp only [T_105, List.all_append, Bool.and_eq_true]
  exact ck_105_0
theorem ck_106 : T_106.all (chkE 106) = true := by
  simp only [T_106, List.all_append, Bool.and_eq_true]
  exact ⟨ck_106_0, ck_106_1⟩
theorem ck_107 : T_107.all (chkE 107) = true := by
  simp only [T_107, List.all_append, Bool.and_eq_true]
  exact ck_107_0
theorem ck_108 : T_108.all (chkE 108) = true := by
  simp only [T_108, List.all_append, Bool.and_eq_true]
  exact ⟨ck_108_0, ck_108_1⟩
theorem ck_109 : T_109.all (chkE 109) = true := by
  simp only [T_109, List.all_append, Bool.and_eq_true]
  exact ck_109_0
theorem ck_110 : T_110.all (chkE 110) = true := by
  simp only [T_110, List.all_append, Bool.and_eq_true]
  exact ⟨ck_110_0, ck_110_1⟩
theorem ck_111 : T_111.all (chkE 111) = true := by
  simp only [T_111, List.all_append, Bool.and_eq_true]
  exact ck_111_0
theorem ck_112 : T_112.all (chkE 112) = true := by
  simp only [T_112, List.all_append, Bool.and_eq_true]
  exact ⟨ck_112_0, ck_112_1⟩
theorem ck_113 : T_113.all (chkE 113) = true := by
  simp only [T_113, List.all_append, Bool.and_eq_true]
  exact ck_113_0
theorem ck_114 : T_114.all (chkE 114) = true := by
  simp only [T_114, List.all_append, Bool.and_eq_true]
  exact ck_114_0
theorem ck_115 : T_115.all (chkE 115) = true := by
  simp only [T_115, List.all_append, Bool.and_eq_true]
  exact ⟨ck_115_0, ck_115_1⟩
theorem ck_116 : T_116.all (chkE 116) = true := by
  simp only [T_116, List.all_append, Bool.and_eq_true]
  exact ⟨⟨⟨ck_116_0, ck_116_1⟩, ck_116_2⟩, ck_116_3⟩
theorem ck_117 : T_117.all (chkE 117) = true := by
  simp only [T_117, List.all_append, Bool.and_eq_true]
  exact ⟨ck_117_0, ck_117_1⟩
theorem ck_118 : T_118.all (chkE 118) = true := by
  simp only [T_118, List.all_append, Bool.and_eq_true]
  exact ck_118_0
theorem ck_119 : T_119.all (chkE 119) = true := by
  simp only [T_119, List.all_append, Bool.and_eq_true]
  exact ⟨ck_119_0, ck_119_1⟩
theorem ck_120 : T_120.all (chkE 120) = true := by
  simp only [T_120, List.all_append, Bool.and_eq_true]
  exact ck_120_0
theorem ck_121 : T_121.all (chkE 121) = true := by
  simp only [T_121, List.all_append, Bool.and_eq_true]
  exact ck_121_0
theorem ck_122 : T_122.all (chkE 122) = true := by
  simp only [T_122, List.all_append, Bool.and_eq_true]
  exact ck_122_0
theorem ck_123 : T_123.all (chkE 123) = true := by
  simp only [T_123, List.all_append, Bool.and_eq_true]
  exact ⟨ck_123_0, ck_123_1⟩
theorem ck_124 : T_124.all (chkE 124) = true := by
  simp only [T_124, List.all_append, Bool.and_eq_true]
  exact ⟨ck_124_0, ck_124_1⟩
theorem ck_125 : T_125.all (chkE 125) = true := by
  simp only [T_125, List.all_append, Bool.and_eq_true]
  exact ck_125_0
theorem ck_126 : T_126.all (chkE 126) = true := by
  simp only [T_126, List.all_append, Bool.and_eq_true]
  exact ck_126_0
theorem ck_127 : T_127.all (chkE 127) = true := by
  simp only [T_127, List.all_append, Bool.and_eq_true]
  exact ⟨⟨⟨ck_127_0, ck_127_1⟩, ck_127_2⟩, ck_127_3⟩
theorem ck_128 : T_128.all (chkE 128) = true := by
  simp only [T_128, List.all_append, Bool.and_eq_true]
  exact ck_128_0
theorem ck_129 : T_129.all (chkE 129) = true := by
  simp only [T_129, List.all_append, Bool.and_eq_true]
  exact ck_129_0
theorem ck_130 : T_130.all (chkE 130) = true := by
  simp only [T_130, List.all_append, Bool.and_eq_true]
  exact ⟨⟨ck_130_0, ck_130_1⟩, ck_130_2⟩
theorem ck_131 : T_131.all (chkE 131) = true := by
  simp only [T_131, List.all_append, Bool.and_eq_true]
  exact ck_131_0
theorem ck_132 : T_132.all (chkE 132) = true := by
  simp only [T_132, List.all_append, Bool.and_eq_true]
  exact ck_132_0
theorem ck_133 : T_133.all (chkE 133) = true := by
  simp only [T_133, List.all_append, Bool.and_eq_true]
  exact ⟨ck_133_0, ck_133_1⟩
theorem ck_134 : T_134.all (chkE 134) = true := by
  simp only [T_134, List.all_append, Bool.and_eq_true]
  exact ⟨ck_134_0, ck_134_1⟩
theorem ck_135 : T_135.all (chkE 135) = true := by
  simp only [T_135, List.all_append, Bool.and_eq_true]
  exact ck_135_0
theorem ck_136 : T_136.all (chkE 136) = true := by
  simp only [T_136, List.all_append, Bool.and_eq_true]
  exact ck_136_0
theorem ck_137 : T_137.all (chkE 137) = true := by
  simp only [T_137, List.all_append, Bool.and_eq_true]
  exact ck_137_0
theorem ck_138 : T_138.all (chkE 138) = true := by
  simp only [T_138, List.all_append, Bool.and_eq_true]
  exact ⟨⟨⟨ck_138_0, ck_138_1⟩, ck_138_2⟩, ck_138_3⟩
theorem ck_139 : T_139.all (chkE 139) = true := by
  simp only [T_139, List.all_append, Bool.and_eq_true]
  exact ⟨ck_139_0, ck_139_1⟩
theorem ck_140 : T_140.all (chkE 140) = true := by
  simp only [T_140, List.all_append, Bool.and_eq_true]
  exact ck_140_0
theorem ck_141 : T_141.all (chkE 141) = true := by
  simp only [T_141, List.all_append, Bool.and_eq_true]
  exact ck_141_0
theorem ck_142 : T_142.all (chkE 142) = true := by
  simp only [T_142, List.all_append, Bool.and_eq_true]
  exact ck_142_0
theorem ck_143 : T_143.all (chkE 143) = true := by
  simp only [T_143, List.all_append, Bool.and_eq_true]
  exact ck_143_0
theorem ck_144 : T_144.all (chkE 144) = true := by
  simp only [T_144, List.all_append, Bool.and_eq_true]
  exact ck_144_0
theorem ck_145 : T_145.all (chkE 145) = true := by
  simp only [T_145, List.all_append, Bool.and_eq_true]
  exact ck_145_0
theorem ck_146 : T_146.all (chkE 146) = true := by
  simp only [T_146, List.all_append, Bool.and_eq_true]
  exact ck_146_0
theorem ck_147 : T_147.all (chkE 147) = true := by
  simp only [T_147, List.all_append, Bool.and_eq_true]
  exact ck_147_0
theorem ck_148 : T_148.all (chkE 148) = true := by
  simp only [T_148, List.all_append, Bool.and_eq_true]
  exact ⟨⟨⟨⟨⟨⟨⟨⟨⟨⟨⟨⟨ck_148_0, ck_148_1⟩, ck_148_2⟩, ck_148_3⟩, ck_148_4⟩, ck_148_5⟩, ck_148_6⟩, ck_148_7⟩, ck_148_8⟩, ck_148_9⟩, ck_148_10⟩, ck_148_11⟩, ck_148_12⟩
def chkT : Nat → List (List TE) → Prop
  | _, [] => True
  | i, t :: r => t.all (chkE i) = true ∧ chkT (i + 1) r
theorem ck_T : chkT 0 TBL := ⟨ck_0, ck_1, ck_2, ck_3, ck_4, ck_5, ck_6, ck_7, ck_8, ck_9, ck_10, ck_11, ck_12, ck_13, ck_14, ck_15, ck_16, ck_17, ck_18, ck_19, ck_20, ck_21, ck_22, ck_23, ck_24, ck_25, ck_26, ck_27, ck_28, ck_29, ck_30, ck_31, ck_32, ck_33, ck_34, ck_35, ck_36, ck_37, ck_38, ck_39, ck_40, ck_41, ck_42, ck_43, ck_44, ck_45, ck_46, ck_47, ck_48, ck_49, ck_50, ck_51, ck_52, ck_53, ck_54, ck_55, ck_56, ck_57, ck_58, ck_59, ck_60, ck_61, ck_62, ck_63, ck_64, ck_65, ck_66, ck_67, ck_68, ck_69, ck_70, ck_71, ck_72, ck_73, ck_74, ck_75, ck_76, ck_77, ck_78, ck_79, ck_80, ck_81, ck_82, ck_83, ck_84, ck_85, ck_86, ck_87, ck_88, ck_89, ck_90, ck_91, ck_92, ck_93, ck_94, ck_95, ck_96, ck_97, ck_98, ck_99, ck_100, ck_101, ck_102, ck_103, ck_104, ck_105, ck_106, ck_107, ck_108, ck_109, ck_110, ck_111, ck_112, ck_113, ck_114, ck_115, ck_116, ck_117, ck_118, ck_119, ck_120, ck_121, ck_122, ck_123, ck_124, ck_125, ck_126, ck_127, ck_128, ck_129, ck_130, ck_131, ck_132, ck_133, ck_134, ck_135, ck_136, ck_137, ck_138, ck_139, ck_140, ck_141, ck_142, ck_143, ck_144, ck_145, ck_146, ck_147, ck_148, trivial⟩
theorem chkT_get : ∀ (L : List (List TE)) (i j : Nat) (t : List TE), chkT i L → L[j]? = some t → t.all (chkE (i + j)) = true
  | [], _, _, _, _, h => by simp at h
  | x :: r, i, 0, t, hc, h => by
    simp only [List.getElem?_cons_zero, Option.some.injEq] at h
    subst h
    exact hc.1
  | x :: r, i, j + 1, t, hc, h => by
    simp only [List.getElem?_cons_succ] at h
    have e := chkT_get r (i + 1) j t hc.2 h
    rw [show i + (j + 1) = i + 1 + j by omega]
    exact e
theorem fetch_chk {k pc pc0 : Nat} {i : Instr} {len a b c : Nat} {z : Int} (h : fetch k pc = some (pc0, i, len, a, b, c, z)) : pc0 = pc ∧ chkE k (pc, i, len, a, b, c, z) = true := by
  unfold fetch at h
  have h2 := List.find?_some h
  have h1 := List.mem_of_find?_eq_some h
  have e : pc0 = pc := by simpa using h2
  subst e
  refine ⟨rfl, ?_⟩
  cases ht : TBL[k]? with
  | none => rw [ht] at h1; simp at h1
  | some t =>
    rw [ht] at h1
    have q := chkT_get TBL 0 k t ck_T ht
    rw [Nat.zero_add] at q
    exact List.all_eq_true.mp q _ h1
theorem chkM_ok {k : Nat} (h : k < 148) : chkM k = true := by
  have hd : ∀ j, j < 8 → (∀ i, i < 20 → 20 * j + i < 148 → chkM (20 * j + i) = true) := by
    intro j hj i hi hb
    match j, hj with
    | 0, _ => exact List.all_eq_true.mp ckm_0 _ (by rw [List.mem_drop_iff_getElem]; exact ⟨i, by simp; omega, by simp⟩)
    | 1, _ => exact List.all_eq_true.mp ckm_1 _ (by rw [List.mem_drop_iff_getElem]; exact ⟨i, by simp; omega, by simp⟩)
    | 2, _ => exact List.all_eq_true.mp ckm_2 _ (by rw [List.mem_drop_iff_getElem]; exact ⟨i, by simp; omega, by simp⟩)
    | 3, _ => exact List.all_eq_true.mp ckm_3 _ (by rw [List.mem_drop_iff_getElem]; exact ⟨i, by simp; omega, by simp⟩)
    | 4, _ => exact List.all_eq_true.mp ckm_4 _ (by rw [List.mem_drop_iff_getElem]; exact ⟨i, by simp; omega, by simp⟩)
    | 5, _ => exact List.all_eq_true.mp ckm_5 _ (by rw [List.mem_drop_iff_getElem]; exact ⟨i, by simp; omega, by simp⟩)
    | 6, _ => exact List.all_eq_true.mp ckm_6 _ (by rw [List.mem_drop_iff_getElem]; exact ⟨i, by simp; omega, by simp⟩)
    | 7, _ => exact List.all_eq_true.mp ckm_7 _ (by rw [List.mem_drop_iff_getElem]; exact ⟨i, by simp; omega, by simp⟩)
    | n + 8, hj => omega
  have e := hd (k / 20) (by omega) (k % 20) (by omega) (by omega)
  rw [show 20 * (k / 20) + k % 20 = k by omega] at e
  exact e
theorem nest_in {w : Jvm.Cond} (h : w ∈ NWL) : w ∈ lw_tbl := by
  obtain ⟨i, hi⟩ := List.getElem?_of_mem h
  have hl : i < 33 := (List.getElem?_eq_some_iff.mp hi).1
  have h1 : ∀ j, j < 33 → ∃ q ∈ NWP, q.1 = j := by decide +kernel
  obtain ⟨q, hq, rfl⟩ := h1 i hl
  have h2 := List.all_eq_true.mp ck_nest q hq
  rw [hi] at h2
  exact List.mem_of_getElem? (of_decide_eq_true h2)

