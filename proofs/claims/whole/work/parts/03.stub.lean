theorem wat_in {p : Nat} {w : Jvm.Cond} (h : wat p w = true) (hg : goodWord w = true) : w ∈ GW := List.mem_filter.mpr ⟨List.mem_of_getElem? (of_decide_eq_true h), hg⟩
theorem gw_good : ∀ w ∈ GW, goodWord w = true := fun w h => (List.mem_filter.mp h).2
theorem gw_in : ∀ w ∈ GW, w ∈ lw_tbl := fun w h => (List.mem_filter.mp h).1
theorem ck_lay : LAYP.all (fun q => wat q.2.2 (u_lay (RC q.1) (TT q.1) q.2.1)) = true := sorry
theorem ck_lay2 : (List.range 9).all (fun c => (List.range (NF c)).all (fun j => LAYP.any (fun q => q.1 == c && q.2.1 == j))) = true := sorry
theorem ck_max : (wat 302 (.static Lib.Math.max.name) && wat 41 (.initialized "java/lang/Math") && wat 303 (.code Lib.Math.max.name Lib.Math.max.code 2 (some .int))) = true := sorry
theorem ck_min : (wat 305 (.static Lib.Math.min.name) && wat 41 (.initialized "java/lang/Math") && wat 306 (.code Lib.Math.min.name Lib.Math.min.code 2 (some .int))) = true := sorry
theorem ck_obj : (wat OPO (.code objectInit ⟨#[0xb1]⟩ 1 none) && wat OPI (.instanceMethod objectInit) && wat PAR (.arrayClass .int)) = true := sorry
theorem ck_nest : NWP.all (fun q => match NWL[q.1]? with | some w => wat q.2 w | none => false) = true := sorry
theorem fetch_chk {k pc pc0 : Nat} {i : Instr} {len a b c : Nat} {z : Int} (h : fetch k pc = some (pc0, i, len, a, b, c, z)) : pc0 = pc ∧ chkE k (pc, i, len, a, b, c, z) = true := sorry
theorem chkM_ok {k : Nat} (h : k < 148) : chkM k = true := sorry
theorem nest_in {w : Jvm.Cond} (h : w ∈ NWL) : w ∈ lw_tbl := sorry
