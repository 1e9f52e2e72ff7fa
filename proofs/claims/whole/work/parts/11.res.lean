/-! THE INTERPRETER WITHOUT FUEL -/
theorem run_succ {sc : Nat × (Nat → Int32)} : ∀ (n : Nat) (c : Cf) (o : Ot), run sc n c = some o → run sc (n + 1) c = some o
  | 0, c, o, h => by cases h
  | n + 1, c, o, h => by
    rw [run] at h ⊢
    split at h
    · cases h
    · rename_i e
      exact h
    · rename_i c' e
      exact run_succ n c' o h
    · rename_i a b e
      (try dsimp only at h ⊢)
      cases ha : run sc n a with
      | none => rw [ha] at h; cases h
      | some o' =>
        rw [ha] at h
        rw [run_succ n a o' ha]
        exact run_succ n _ o h
theorem run_le {sc : Nat × (Nat → Int32)} {n m : Nat} {c : Cf} {o : Ot} (h : run sc n c = some o) (hm : n ≤ m) : run sc m c = some o := by
  obtain ⟨k, rfl⟩ := Nat.exists_eq_add_of_le hm
  clear hm
  induction k with
  | zero => exact h
  | succ k ih => exact run_succ _ _ _ ih
noncomputable def res (sc : Nat × (Nat → Int32)) (c : Cf) : Option Ot := @dite (Option Ot) (∃ o n, run sc n c = some o) (Classical.propDecidable _) (fun h => some h.choose) (fun _ => none)
theorem res_of {sc : Nat × (Nat → Int32)} {n : Nat} {c : Cf} {o : Ot} (h : run sc n c = some o) : res sc c = some o := by
  have hx : ∃ o n, run sc n c = some o := ⟨o, n, h⟩
  unfold res
  rw [dif_pos hx]
  obtain ⟨m, hm⟩ := hx.choose_spec
  have h1 := run_le h (Nat.le_max_left n m)
  have h2 := run_le hm (Nat.le_max_right n m)
  rw [h1] at h2
  exact h2.symm
theorem res_ex {sc : Nat × (Nat → Int32)} {c : Cf} {o : Ot} (h : res sc c = some o) : ∃ n, run sc n c = some o := by
  unfold res at h
  by_cases hx : ∃ o n, run sc n c = some o
  · rw [dif_pos hx] at h
    cases h
    exact hx.choose_spec
  · rw [dif_neg hx] at h
    cases h
def bnd (r : Option Ot) (f : Ot → Option Ot) : Option Ot := match r with
  | none => none
  | some o => f o
theorem bnd_some (o : Ot) (f : Ot → Option Ot) : bnd (some o) f = f o := rfl
theorem res_ext {sc : Nat × (Nat → Int32)} {c : Cf} {r : Option Ot} (h1 : ∀ n o, run sc n c = some o → r = some o) (h2 : ∀ o, r = some o → ∃ n, run sc n c = some o) : res sc c = r := by
  cases hr : r with
  | none =>
    cases e : res sc c with
    | none => rfl
    | some o =>
      obtain ⟨n, hn⟩ := res_ex e
      rw [h1 n o hn] at hr
      cases hr
  | some o =>
    obtain ⟨n, hn⟩ := h2 o hr
    exact res_of hn
theorem res_next {sc : Nat × (Nat → Int32)} {c c' : Cf} (h : eff sc c = some (.inr (.inl c'))) : res sc c = res sc c' := by
  refine res_ext (fun n o hn => ?_) (fun o ho => ?_)
  · cases n with
    | zero => cases hn
    | succ n =>
      rw [run, h] at hn
      exact res_of hn
  · obtain ⟨n, hn⟩ := res_ex ho
    exact ⟨n + 1, by rw [run, h]; exact hn⟩
theorem res_ret {sc : Nat × (Nat → Int32)} {c : Cf} {o : Ot} (h : eff sc c = some (.inl o)) : res sc c = some o := res_of (n := 1) (by rw [run, h])
theorem res_call {sc : Nat × (Nat → Int32)} {c a b : Cf} (h : eff sc c = some (.inr (.inr (a, b)))) : res sc c = bnd (res sc a) (fun o => res sc (resume b o)) := by
  refine res_ext (fun n o hn => ?_) (fun o ho => ?_)
  · cases n with
    | zero => cases hn
    | succ n =>
      rw [run, h] at hn
      (try dsimp only at hn)
      cases ha : run sc n a with
      | none => rw [ha] at hn; cases hn
      | some o' =>
        rw [ha] at hn
        rw [res_of ha, bnd_some]
        exact res_of hn
  · cases ha : res sc a with
    | none => rw [ha] at ho; cases ho
    | some o' =>
      rw [ha, bnd_some] at ho
      obtain ⟨n, hn⟩ := res_ex ha
      obtain ⟨m, hm⟩ := res_ex ho
      refine ⟨max n m + 1, ?_⟩
      rw [run, h]
      (try dsimp only)
      rw [run_le hn (Nat.le_max_left n m)]
      exact run_le hm (Nat.le_max_right n m)
theorem res_br {sc : Nat × (Nat → Int32)} {c c1 c2 : Cf} {P : Prop} [Decidable P] (hr : retE c = none) (h : effN sc c = if P then nxt c1 else nxt c2) : res sc c = if P then res sc c1 else res sc c2 := by
  by_cases hp : P
  · rw [if_pos hp] at h ⊢
    exact res_next (by unfold eff; rw [hr, h]; rfl)
  · rw [if_neg hp] at h ⊢
    exact res_next (by unfold eff; rw [hr, h]; rfl)
/-- many steps at once, none of them a call or a return -/
def go (sc : Nat × (Nat → Int32)) : Nat → Cf → Option Cf
  | 0, c => some c
  | n + 1, c => match eff sc c with
    | some (.inr (.inl c')) => go sc n c'
    | _ => none
theorem res_go {sc : Nat × (Nat → Int32)} : ∀ (n : Nat) {c c' : Cf}, go sc n c = some c' → res sc c = res sc c'
  | 0, c, c', h => by cases h; rfl
  | n + 1, c, c', h => by
    unfold go at h
    split at h
    · rename_i c2 e
      rw [res_next e]
      exact res_go n h
    · cases h
noncomputable def rs (sc : Nat × (Nat → Int32)) (k pc : Nat) (ls : Ls) (lq : Lq) (st : List Value) (h : Hp) : Option Ot := res sc (k, pc, ls, lq, st, h, 0, 0)
