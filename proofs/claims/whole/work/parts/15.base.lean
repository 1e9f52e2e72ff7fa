/-! NUMBERS, for the walks of the pure rows -/
theorem c_lt {a b : Nat} (ha : a < 2147483648) (hb : b < 2147483648) : (nI a < nI b) = (a < b) := propext (nI_ltI ha hb)
theorem c_le {a b : Nat} (ha : a < 2147483648) (hb : b < 2147483648) : (nI a ≤ nI b) = (a ≤ b) := propext (nI_leI ha hb)
theorem c_eq {a b : Nat} (ha : a < 2147483648) (hb : b < 2147483648) : (nI a = nI b) = (a = b) := propext (nI_eq ha hb)
theorem c_add (a b : Nat) : nI a + nI b = nI (a + b) := nI_add a b
theorem m1_lt {a : Nat} (ha : a < 2147483648) : ((-1 : Int32) < nI a) = True := by
  apply propext
  refine ⟨fun _ => trivial, fun _ => ?_⟩
  rw [Int32.lt_iff_toInt_lt, nI_toInt ha]
  have e : (-1 : Int32).toInt = -1 := by decide
  rw [e]; omega
theorem m1_le {a : Nat} (ha : a < 2147483648) : (nI a ≤ (-1 : Int32)) = False := by
  apply propext
  refine ⟨fun h => ?_, fun h => h.elim⟩
  rw [Int32.le_iff_toInt_le, nI_toInt ha] at h
  have e : (-1 : Int32).toInt = -1 := by decide
  rw [e] at h; omega
theorem m1_eq1 {a : Nat} (ha : a < 2147483648) : (nI a = (-1 : Int32)) = False := by
  apply propext
  refine ⟨fun h => ?_, fun h => h.elim⟩
  have h1 := congrArg Int32.toInt h
  rw [nI_toInt ha] at h1
  have e : (-1 : Int32).toInt = -1 := by decide
  rw [e] at h1; omega
theorem m1_eq2 {a : Nat} (ha : a < 2147483648) : ((-1 : Int32) = nI a) = False := by
  exact propext ⟨fun h => by rw [← m1_eq1 ha]; exact h.symm, fun h => h.elim⟩
theorem i_lt_t {α : Sort _} {x y : α} {a b : Nat} (h : a < b) (hb : b < 2147483648) : (if nI a < nI b then x else y) = x := if_pos ((nI_ltI (by omega) hb).mpr h)
theorem i_lt_f {α : Sort _} {x y : α} {a b : Nat} (h : b ≤ a) (ha : a < 2147483648) : (if nI a < nI b then x else y) = y := if_neg (fun q => absurd ((nI_ltI ha (by omega)).mp q) (by omega))
theorem i_le_t {α : Sort _} {x y : α} {a b : Nat} (h : a ≤ b) (hb : b < 2147483648) : (if nI a ≤ nI b then x else y) = x := if_pos ((nI_leI (by omega) hb).mpr h)
theorem i_le_f {α : Sort _} {x y : α} {a b : Nat} (h : b < a) (ha : a < 2147483648) : (if nI a ≤ nI b then x else y) = y := if_neg (fun q => absurd ((nI_leI ha (by omega)).mp q) (by omega))
theorem i_eq_t {α : Sort _} {x y : α} {a b : Nat} (h : a = b) : (if nI a = nI b then x else y) = x := if_pos (by rw [h])
theorem i_eq_f {α : Sort _} {x y : α} {a b : Nat} (h : a ≠ b) (ha : a < 2147483648) (hb : b < 2147483648) : (if nI a = nI b then x else y) = y := if_neg (fun q => h ((nI_eq ha hb).mp q))
theorem i_m1a {α : Sort _} {x y : α} {a : Nat} (ha : a < 2147483648) : (if nI a = (-1 : Int32) then x else y) = y := if_neg (by rw [m1_eq1 ha]; exact id)
theorem i_m1b {α : Sort _} {x y : α} : (if (-1 : Int32) = -1 then x else y) = x := if_pos rfl
theorem i_m1c {α : Sort _} {x y : α} : (if (-1 : Int32) < nI 0 then x else y) = x := if_pos (by decide)
theorem i_m1d {α : Sort _} {x y : α} {a : Nat} (ha : a < 2147483648) : (if nI a ≤ (-1 : Int32) then x else y) = y := if_neg (by rw [m1_le ha]; exact id)
theorem i_m1e {α : Sort _} {x y : α} {a : Nat} (ha : a < 2147483648) : (if (-1 : Int32) = nI a then x else y) = y := if_neg (by rw [m1_eq2 ha]; exact id)
theorem i_m1f {α : Sort _} {x y : α} {a : Nat} (ha : a < 2147483648) : (if (-1 : Int32) < nI a then x else y) = x := if_pos (by rw [m1_lt ha]; trivial)
theorem ret_1 : retOk (some .boolean) (nI 1) = true := by decide
theorem ret_0 : retOk (some .boolean) (nI 0) = true := by decide
theorem m1_lt0 : ((-1 : Int32) < nI 0) = True := by decide
theorem one_eq_zero : ((1 : Nat) = 0) = False := by decide
theorem c_sub {a b : Nat} (h : b ≤ a) : nI a - nI b = nI (a - b) := pk_sub h
theorem not_lt_zero (a : Nat) : (a < 0) = False := by simp
theorem eq_self_iff {α : Type} (a : α) : (a = a) = True := by simp
/-- the bit of a place -/
def tb (x : Int32) (j : Nat) : Int32 := (x >>> (nI j &&& 31)) &&& nI 1
