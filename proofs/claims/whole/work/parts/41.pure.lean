/-! THE LAW: both objects made, then the loop -/
def OBX : Ob := .inr (7, [.null, .null, .null, .null, .null, .null, .null, .null, .int 0, .int 0, .int 0])
def OBM : Ob := .inr (8, [.null, .int 0, .int 0, .int 0, .int 0, .null, .int 0, .int 0, .int 0, .int 0, .int 0, .null, .null, .null, .null, .int 0, .int 0, .null, .null, .null, .int 0, .null, .int 0, .int 0, .int 0, .int 0, .int 0, .null, .null, .null, .long 0])
theorem init_x (sc : Nat × (Nat → Int32)) : run sc 400 (start [OBX] 48 [.ref 0]) = some (none, (hp I0 A0 0).take 26) := rfl
set_option maxRecDepth 100000 in
theorem init_m (sc : Nat × (Nat → Int32)) : run sc 400 (start ((hp I0 A0 0).take 26 ++ [OBM]) 85 [.ref 26]) = some (none, hp I0 A0 0) := rfl
set_option maxRecDepth 100000 in
theorem law_start (sc : Nat × (Nat → Int32)) : res sc (start [] LAWM [.ref SCR]) = rs sc 148 18 [some (.ref 1000000), some (.ref 0), some (.ref 26), some (.int (nI 0))] [] [] (hp I0 A0 0) := by
  have e1 : res sc (start [] LAWM [.ref SCR]) = res sc (148, 4, [some (.ref 1000000), none, none, none], [], [.ref 0, .ref 0], [OBX], 39, 306) := res_go 2 rfl
  have e2 : res sc (148, 4, [some (.ref 1000000), none, none, none], [], [.ref 0, .ref 0], [OBX], 39, 306) = bnd (res sc (start [OBX] 48 [.ref 0])) (fun o => res sc (resume (148, 7, [some (.ref 1000000), none, none, none], [], [.ref 0], [OBX], 14, 152) o)) := res_call rfl
  have e3 : res sc (resume (148, 7, [some (.ref 1000000), none, none, none], [], [.ref 0], [OBX], 14, 152) (none, (hp I0 A0 0).take 26)) = res sc (148, 12, [some (.ref 1000000), some (.ref 0), none, none], [], [.ref 26, .ref 26], (hp I0 A0 0).take 26 ++ [OBM], 13, 121) := res_go 3 rfl
  have e4 : res sc (148, 12, [some (.ref 1000000), some (.ref 0), none, none], [], [.ref 26, .ref 26], (hp I0 A0 0).take 26 ++ [OBM], 13, 121) = bnd (res sc (start ((hp I0 A0 0).take 26 ++ [OBM]) 85 [.ref 26])) (fun o => res sc (resume (148, 15, [some (.ref 1000000), some (.ref 0), none, none], [], [.ref 26], (hp I0 A0 0).take 26 ++ [OBM], 0, 0) o)) := res_call rfl
  have e5 : res sc (resume (148, 15, [some (.ref 1000000), some (.ref 0), none, none], [], [.ref 26], (hp I0 A0 0).take 26 ++ [OBM], 0, 0) (none, hp I0 A0 0)) = rs sc 148 18 [some (.ref 1000000), some (.ref 0), some (.ref 26), some (.int (nI 0))] [] [] (hp I0 A0 0) := res_go 3 rfl
  rw [e1, e2, res_of (init_x sc), bnd_some, e3, e4, res_of (init_m sc), bnd_some, e5]
def S0 : Scn := (0, 0, 0, 0, fun _ => 0, fun _ => 0, fun _ => 0, fun _ => 0, fun _ => 0)
def U0 : St := (0, 0, fun _ => 0, S0, 0, fun _ => 0, 0, 0, 0, S0)
theorem U0_wf : WF 0 U0 := And.intro (by decide) (And.intro (fun _ => ⟨rfl, rfl, rfl⟩) (And.intro (by decide) (And.intro (by decide) (by decide))))
theorem U0_x : XS U0 I0 A0 :=
  And.intro (fun h => absurd h (by decide)) (And.intro (fun _ => ⟨by decide, by decide⟩) (And.intro (And.intro ⟨by decide, by decide, by decide, by decide, fun j hj => absurd hj (by omega)⟩ (And.intro ⟨by decide, by decide, fun j hj => absurd hj (by omega)⟩ ⟨by decide, by decide, fun j hj => absurd hj (by omega)⟩)) (And.intro ⟨by decide, by decide, fun j hj => absurd hj (by omega)⟩ (And.intro (by decide) (And.intro (by decide) (And.intro (by decide) (fun h => absurd h (by decide))))))))
theorem U0_m : MSt U0 I0 A0 :=
  And.intro (fun h => absurd h (by decide)) (And.intro (fun _ => by decide) (And.intro (And.intro ⟨by decide, by decide, fun j hj => absurd hj (by omega)⟩ (And.intro ⟨by decide, by decide, fun j hj => absurd hj (by omega)⟩ (And.intro ⟨by decide, by decide, fun j hj => absurd hj (by omega)⟩ (by decide)))) (And.intro ⟨by decide, by decide, fun j hj => absurd hj (by omega)⟩ (And.intro (by decide) (And.intro (by decide) (And.intro (fun h => absurd h (by decide)) (fun _ => Or.inl (by decide))))))))
theorem pure_ok : PURE := by
  intro L xs hL
  obtain ⟨h', r⟩ := lz_loop (L, xs) hL 600 0 0 U0 I0 A0 0 (by show L < 0 + 4 * 600; omega) (Nat.zero_le _) (by omega) U0_wf U0_x U0_m
  rw [← law_start] at r
  obtain ⟨n, hn⟩ := res_ex r
  exact ⟨n, h', hn⟩
