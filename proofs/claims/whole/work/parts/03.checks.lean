theorem wat_in {p : Nat} {w : Jvm.Cond} (h : wat p w = true) (hg : goodWord w = true) : w ∈ GW := List.mem_filter.mpr ⟨List.mem_of_getElem? (of_decide_eq_true h), hg⟩
theorem gw_good : ∀ w ∈ GW, goodWord w = true := fun w h => (List.mem_filter.mp h).2
theorem gw_in : ∀ w ∈ GW, w ∈ lw_tbl := fun w h => (List.mem_filter.mp h).1
set_option maxRecDepth 100000 in
theorem ck_lay : LAYP.all (fun q => wat q.2.2 (u_lay (RC q.1) (TT q.1) q.2.1)) = true := by decide +kernel
set_option maxRecDepth 100000 in
theorem ck_lay2 : (List.range 9).all (fun c => (List.range (NF c)).all (fun j => LAYP.any (fun q => q.1 == c && q.2.1 == j))) = true := by decide +kernel
set_option maxRecDepth 100000 in
theorem ck_max : (wat 302 (.static Lib.Math.max.name) && wat 41 (.initialized "java/lang/Math") && wat 303 (.code Lib.Math.max.name Lib.Math.max.code 2 (some .int))) = true := by decide +kernel
set_option maxRecDepth 100000 in
theorem ck_min : (wat 305 (.static Lib.Math.min.name) && wat 41 (.initialized "java/lang/Math") && wat 306 (.code Lib.Math.min.name Lib.Math.min.code 2 (some .int))) = true := by decide +kernel
set_option maxRecDepth 100000 in
theorem ck_obj : (wat OPO (.code objectInit ⟨#[0xb1]⟩ 1 none) && wat OPI (.instanceMethod objectInit) && wat PAR (.arrayClass .int)) = true := by decide +kernel
set_option maxRecDepth 100000 in
theorem ck_nest : NWP.all (fun q => match NWL[q.1]? with | some w => wat q.2 w | none => false) = true := by decide +kernel
set_option maxRecDepth 100000 in
theorem ckm_0 : ((List.range 20).drop 0).all chkM = true := by decide +kernel
set_option maxRecDepth 100000 in
theorem ckm_1 : ((List.range 40).drop 20).all chkM = true := by decide +kernel
set_option maxRecDepth 100000 in
theorem ckm_2 : ((List.range 60).drop 40).all chkM = true := by decide +kernel
set_option maxRecDepth 100000 in
theorem ckm_3 : ((List.range 80).drop 60).all chkM = true := by decide +kernel
set_option maxRecDepth 100000 in
theorem ckm_4 : ((List.range 100).drop 80).all chkM = true := by decide +kernel
set_option maxRecDepth 100000 in
theorem ckm_5 : ((List.range 120).drop 100).all chkM = true := by decide +kernel
set_option maxRecDepth 100000 in
theorem ckm_6 : ((List.range 140).drop 120).all chkM = true := by decide +kernel
set_option maxRecDepth 100000 in
theorem ckm_7 : ((List.range 148).drop 140).all chkM = true := by decide +kernel
set_option maxRecDepth 100000 in
theorem ck_0_0 : T_0_0.all (chkE 0) = true := by decide +kernel
set_option maxRecDepth 100000 in
theorem ck_1_0 : T_1_0.all (chkE 1) = true := by decide +kernel
set_option maxRecDepth 100000 in
theorem ck_2_0 : T_2_0.all (chkE 2) = true := by decide +kernel
set_option maxRecDepth 100000 in
theorem ck_2_1 : T_2_1.all (chkE 2) = true := by decide +kernel
set_option maxRecDepth 100000 in
theorem ck_3_0 : T_3_0.all (chkE 3) = true := by decide +kernel
set_option maxRecDepth 100000 in
theorem ck_4_0 : T_4_0.all (chkE 4) = true := by decide +kernel
set_option maxRecDepth 100000 in
theorem ck_5_0 : T_5_0.all (chkE 5) = true := by decide +kernel
set_option maxRecDepth 100000 in
theorem ck_6_0 : T_6_0.all (chkE 6) = true := by decide +kernel
set_option maxRecDepth 100000 in
theorem ck_7_0 : T_7_0.all (chkE 7) = true := by decide +kernel
set_option maxRecDepth 100000 in
theorem ck_8_0 : T_8_0.all (chkE 8) = true := by decide +kernel
set_option maxRecDepth 100000 in
theorem ck_9_0 : T_9_0.all (chkE 9) = true := by decide +kernel
set_option maxRecDepth 100000 in
theorem ck_10_0 : T_10_0.all (chkE 10) = true := by decide +kernel
set_option maxRecDepth 100000 in
theorem ck_11_0 : T_11_0.all (chkE 11) = true := by decide +kernel
set_option maxRecDepth 100000 in
theorem ck_11_1 : T_11_1.all (chkE 11) = true := by decide +kernel
set_option maxRecDepth 100000 in
theorem ck_12_0 : T_12_0.all (chkE 12) = true := by decide +kernel
set_option maxRecDepth 100000 in
theorem ck_13_0 : T_13_0.all (chkE 13) = true := by decide +kernel
set_option maxRecDepth 100000 in
theorem ck_14_0 : T_14_0.all (chkE 14) = true := by decide +kernel
set_option maxRecDepth 100000 in
theorem ck_15_0 : T_15_0.all (chkE 15) = true := by decide +kernel
set_option maxRecDepth 100000 in
theorem ck_16_0 : T_16_0.all (chkE 16) = true := by decide +kernel
set_option maxRecDepth 100000 in
theorem ck_17_0 : T_17_0.all (chkE 17) = true := by decide +kernel
set_option maxRecDepth 100000 in
theorem ck_17_1 : T_17_1.all (chkE 17) = true := by decide +kernel
set_option maxRecDepth 100000 in
theorem ck_18_0 : T_18_0.all (chkE 18) = true := by decide +kernel
set_option maxRecDepth 100000 in
theorem ck_19_0 : T_19_0.all (chkE 19) = true := by decide +kernel
set_option maxRecDepth 100000 in
theorem ck_20_0 : T_20_0.all (chkE 20) = true := by decide +kernel
set_option maxRecDepth 100000 in
theorem ck_21_0 : T_21_0.all (chkE 21) = true := by decide +kernel
set_option maxRecDepth 100000 in
theorem ck_22_0 : T_22_0.all (chkE 22) = true := by decide +kernel
set_option maxRecDepth 100000 in
theorem ck_23_0 : T_23_0.all (chkE 23) = true := by decide +kernel
set_option maxRecDepth 100000 in
theorem ck_24_0 : T_24_0.all (chkE 24) = true := by decide +kernel
set_option maxRecDepth 100000 in
theorem ck_25_0 : T_25_0.all (chkE 25) = true := by decide +kernel
set_option maxRecDepth 100000 in
theorem ck_25_1 : T_25_1.all (chkE 25) = true := by decide +kernel
set_option maxRecDepth 100000 in
theorem ck_26_0 : T_26_0.all (chkE 26) = true := by decide +kernel
set_option maxRecDepth 100000 in
theorem ck_27_0 : T_27_0.all (chkE 27) = true := by decide +kernel
set_option maxRecDepth 100000 in
theorem ck_28_0 : T_28_0.all (chkE 28) = true := by decide +kernel
set_option maxRecDepth 100000 in
theorem ck_28_1 : T_28_1.all (chkE 28) = true := by decide +kernel
set_option maxRecDepth 100000 in
theorem ck_29_0 : T_29_0.all (chkE 29) = true := by decide +kernel
set_option maxRecDepth 100000 in
theorem ck_30_0 : T_30_0.all (chkE 30) = true := by decide +kernel
set_option maxRecDepth 100000 in
theorem ck_31_0 : T_31_0.all (chkE 31) = true := by decide +kernel
set_option maxRecDepth 100000 in
theorem ck_32_0 : T_32_0.all (chkE 32) = true := by decide +kernel
set_option maxRecDepth 100000 in
theorem ck_33_0 : T_33_0.all (chkE 33) = true := by decide +kernel
set_option maxRecDepth 100000 in
theorem ck_34_0 : T_34_0.all (chkE 34) = true := by decide +kernel
set_option maxRecDepth 100000 in
theorem ck_35_0 : T_35_0.all (chkE 35) = true := by decide +kernel
set_option maxRecDepth 100000 in
theorem ck_36_0 : T_36_0.all (chkE 36) = true := by decide +kernel
set_option maxRecDepth 100000 in
theorem ck_37_0 : T_37_0.all (chkE 37) = true := by decide +kernel
set_option maxRecDepth 100000 in
theorem ck_38_0 : T_38_0.all (chkE 38) = true := by decide +kernel
set_option maxRecDepth 100000 in
theorem ck_38_1 : T_38_1.all (chkE 38) = true := by decide +kernel
set_option maxRecDepth 100000 in
theorem ck_39_0 : T_39_0.all (chkE 39) = true := by decide +kernel
set_option maxRecDepth 100000 in
theorem ck_40_0 : T_40_0.all (chkE 40) = true := by decide +kernel
set_option maxRecDepth 100000 in
theorem ck_41_0 : T_41_0.all (chkE 41) = true := by decide +kernel
set_option maxRecDepth 100000 in
theorem ck_42_0 : T_42_0.all (chkE 42) = true := by decide +kernel
set_option maxRecDepth 100000 in
theorem ck_43_0 : T_43_0.all (chkE 43) = true := by decide +kernel
set_option maxRecDepth 100000 in
theorem ck_44_0 : T_44_0.all (chkE 44) = true := by decide +kernel
set_option maxRecDepth 100000 in
theorem ck_45_0 : T_45_0.all (chkE 45) = true := by decide +kernel
set_option maxRecDepth 100000 in
theorem ck_46_0 : T_46_0.all (chkE 46) = true := by decide +kernel
set_option maxRecDepth 100000 in
theorem ck_47_0 : T_47_0.all (chkE 47) = true := by decide +kernel
set_option maxRecDepth 100000 in
theorem ck_47_1 : T_47_1.all (chkE 47) = true := by decide +kernel
set_option maxRecDepth 100000 in
theorem ck_48_0 : T_48_0.all (chkE 48) = true := by decide +kernel
set_option maxRecDepth 100000 in
theorem ck_48_1 : T_48_1.all (chkE 48) = true := by decide +kernel
set_option maxRecDepth 100000 in
theorem ck_49_0 : T_49_0.all (chkE 49) = true := by decide +kernel
set_option maxRecDepth 100000 in
theorem ck_50_0 : T_50_0.all (chkE 50) = true := by decide +kernel
set_option maxRecDepth 100000 in
theorem ck_51_0 : T_51_0.all (chkE 51) = true := by decide +kernel
set_option maxRecDepth 100000 in
theorem ck_52_0 : T_52_0.all (chkE 52) = true := by decide +kernel
set_option maxRecDepth 100000 in
theorem ck_53_0 : T_53_0.all (chkE 53) = true := by decide +kernel
set_option maxRecDepth 100000 in
theorem ck_54_0 : T_54_0.all (chkE 54) = true := by decide +kernel
set_option maxRecDepth 100000 in
theorem ck_55_0 : T_55_0.all (chkE 55) = true := by decide +kernel
set_option maxRecDepth 100000 in
theorem ck_56_0 : T_56_0.all (chkE 56) = true := by decide +kernel
set_option maxRecDepth 100000 in
theorem ck_57_0 : T_57_0.all (chkE 57) = true := by decide +kernel
set_option maxRecDepth 100000 in
theorem ck_58_0 : T_58_0.all (chkE 58) = true := by decide +kernel
set_option maxRecDepth 100000 in
theorem ck_59_0 : T_59_0.all (chkE 59) = true := by decide +kernel
set_option maxRecDepth 100000 in
theorem ck_60_0 : T_60_0.all (chkE 60) = true := by decide +kernel
set_option maxRecDepth 100000 in
theorem ck_61_0 : T_61_0.all (chkE 61) = true := by decide +kernel
set_option maxRecDepth 100000 in
theorem ck_61_1 : T_61_1.all (chkE 61) = true := by decide +kernel
set_option maxRecDepth 100000 in
theorem ck_62_0 : T_62_0.all (chkE 62) = true := by decide +kernel
set_option maxRecDepth 100000 in
theorem ck_62_1 : T_62_1.all (chkE 62) = true := by decide +kernel
set_option maxRecDepth 100000 in
theorem ck_63_0 : T_63_0.all (chkE 63) = true := by decide +kernel
set_option maxRecDepth 100000 in
theorem ck_63_1 : T_63_1.all (chkE 63) = true := by decide +kernel
set_option maxRecDepth 100000 in
theorem ck_64_0 : T_64_0.all (chkE 64) = true := by decide +kernel
set_option maxRecDepth 100000 in
theorem ck_64_1 : T_64_1.all (chkE 64) = true := by decide +kernel
set_option maxRecDepth 100000 in
theorem ck_65_0 : T_65_0.all (chkE 65) = true := by decide +kernel
set_option maxRecDepth 100000 in
theorem ck_66_0 : T_66_0.all (chkE 66) = true := by decide +kernel
set_option maxRecDepth 100000 in
theorem ck_67_0 : T_67_0.all (chkE 67) = true := by decide +kernel
set_option maxRecDepth 100000 in
theorem ck_68_0 : T_68_0.all (chkE 68) = true := by decide +kernel
set_option maxRecDepth 100000 in
theorem ck_68_1 : T_68_1.all (chkE 68) = true := by decide +kernel
set_option maxRecDepth 100000 in
theorem ck_69_0 : T_69_0.all (chkE 69) = true := by decide +kernel
set_option maxRecDepth 100000 in
theorem ck_70_0 : T_70_0.all (chkE 70) = true := by decide +kernel
set_option maxRecDepth 100000 in
theorem ck_71_0 : T_71_0.all (chkE 71) = true := by decide +kernel
set_option maxRecDepth 100000 in
theorem ck_71_1 : T_71_1.all (chkE 71) = true := by decide +kernel
set_option maxRecDepth 100000 in
theorem ck_72_0 : T_72_0.all (chkE 72) = true := by decide +kernel
set_option maxRecDepth 100000 in
theorem ck_72_1 : T_72_1.all (chkE 72) = true := by decide +kernel
set_option maxRecDepth 100000 in
theorem ck_72_2 : T_72_2.all (chkE 72) = true := by decide +kernel
set_option maxRecDepth 100000 in
theorem ck_72_3 : T_72_3.all (chkE 72) = true := by decide +kernel
set_option maxRecDepth 100000 in
theorem ck_72_4 : T_72_4.all (chkE 72) = true := by decide +kernel
set_option maxRecDepth 100000 in
theorem ck_73_0 : T_73_0.all (chkE 73) = true := by decide +kernel
set_option maxRecDepth 100000 in
theorem ck_74_0 : T_74_0.all (chkE 74) = true := by decide +kernel
set_option maxRecDepth 100000 in
theorem ck_75_0 : T_75_0.all (chkE 75) = true := by decide +kernel
set_option maxRecDepth 100000 in
theorem ck_76_0 : T_76_0.all (chkE 76) = true := by decide +kernel
set_option maxRecDepth 100000 in
theorem ck_76_1 : T_76_1.all (chkE 76) = true := by decide +kernel
set_option maxRecDepth 100000 in
theorem ck_77_0 : T_77_0.all (chkE 77) = true := by decide +kernel
set_option maxRecDepth 100000 in
theorem ck_78_0 : T_78_0.all (chkE 78) = true := by decide +kernel
