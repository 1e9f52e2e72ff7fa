/-! THE SIGHT, as both walk it; the class's follow() -/
theorem nx_and (a b : Nat) : nI a &&& nI b = nI (a &&& b) := by
  apply Int32.toBitVec_inj.mp
  rw [Int32.toBitVec_and]
  show BitVec.ofNat 32 a &&& BitVec.ofNat 32 b = BitVec.ofNat 32 (a &&& b)
  rw [BitVec.ofNat_and]
theorem nx_xor (a b : Nat) : nI a ^^^ nI b = nI (a ^^^ b) := by
  apply Int32.toBitVec_inj.mp
  rw [Int32.toBitVec_xor]
  show BitVec.ofNat 32 a ^^^ BitVec.ofNat 32 b = BitVec.ofNat 32 (a ^^^ b)
  rw [BitVec.ofNat_xor]
/-- a bit set -/
def sb (x : Int32) (c : Nat) : Int32 := x ||| (nI 1 <<< (nI c &&& 31))
def sg (s : Nat → Nat) (c : Nat) : Nat := if c < 12 then s c else 1
def ds (c w : Nat) : Nat := if w = 0 then 3 - c % 4 else if w = 1 then 2 - c / 4 else if w = 2 then c % 4 else c / 4
theorem ds_le (c w : Nat) (hc : c < 12) : ds c w ≤ 3 := by
  unfold ds; repeat' split
  all_goals omega
theorem ds_bes (c w : Nat) (hc : c < 12) (hw : w < 4) (hb : bes c w < 12) : ds (bes c w) w + 1 = ds c w := by
  rcases (show w = 0 ∨ w = 1 ∨ w = 2 ∨ w = 3 by omega) with rfl | rfl | rfl | rfl
  · simp only [bes, ds, if_true] at hb ⊢
    split at hb
    · rw [if_pos (by assumption)]; omega
    · omega
  · simp only [bes, ds, one_eq_zero, if_false, if_true] at hb ⊢
    split at hb
    · rw [if_pos (by assumption)]; omega
    · omega
  · simp only [bes, ds, if_false, if_true, show (2 : Nat) = 0 ↔ False by decide, show (2 : Nat) = 1 ↔ False by decide] at hb ⊢
    split at hb
    · rw [if_pos (by assumption)]; omega
    · omega
  · simp only [bes, ds, if_false, if_true, show (3 : Nat) = 0 ↔ False by decide, show (3 : Nat) = 1 ↔ False by decide, show (3 : Nat) = 2 ↔ False by decide] at hb ⊢
    split at hb
    · rw [if_pos (by assumption)]; omega
    · omega
def sl (s : Nat → Nat) (d k : Nat) (T : Nat → Nat) : Nat → Nat → Nat → Nat → Int32 → Int32 → Int32 × Int32 × Nat
  | 0, _, _, t, se, le => (se, le, t)
  | f + 1, c, w, t, se, le =>
    if sg s (bes c w) = 0 then
      (if tb se (bes c w) = nI 0 then sl s d k T f (bes c w) w t (sb se (bes c w)) (le ||| ((nI t &&& nI 1) <<< (nI (bes c w) &&& 31))) else sl s d k T f (bes c w) w t se le)
    else if tn (sg s (bes c w)) k (T (bes c w)) = 9 ∨ (tn (sg s (bes c w)) k (T (bes c w)) ≠ 0 ∧ d ≤ t) then (se, le, t)
    else sl s d k T f (bes c w) (w ^^^ tn (sg s (bes c w)) k (T (bes c w))) (if tn (sg s (bes c w)) k (T (bes c w)) = 0 then t else t + 1) se le
theorem tn_lt (g k t : Nat) : tn g k t = 9 ∨ tn g k t < 4 := by
  unfold tn; repeat' split
  all_goals omega
theorem xor_lt4 (a b : Nat) (ha : a < 4) (hb : b < 4) : a ^^^ b < 4 := Nat.xor_lt_two_pow (n := 2) ha hb
def Ag (I I0 : Nat → Int32) : Prop := ∀ j, j ≠ 14 → j ≠ 15 → j ≠ 16 → I j = I0 j
theorem Ag.rf (I : Nat → Int32) : Ag I I := fun _ _ _ _ => rfl
theorem Ag.tr {I J K : Nat → Int32} (h1 : Ag I J) (h2 : Ag J K) : Ag I K := fun j a b c => (h1 j a b c).trans (h2 j a b c)
theorem Ag.up {I I0 : Nat → Int32} (h : Ag I I0) (j : Nat) (hj : j = 14 ∨ j = 15 ∨ j = 16) (v : Int32) : Ag (upd I j v) I0 := fun i a b c => by
  rw [pk_un (by omega)]
  exact h i a b c
theorem XH.ag {s : Nat → Nat} {d : Nat} {I I0 : Nat → Int32} {A : Nat → Nat → Int32} (h : XH s d I0 A) (ha : Ag I I0) : XH s d I A :=
  ⟨by rw [ha 4 (by decide) (by decide) (by decide)]; exact h.1, by rw [ha 5 (by decide) (by decide) (by decide)]; exact h.2.1, h.2.2⟩
theorem comeTo_ok (sc : Nat × (Nat → Int32)) (I : Nat → Int32) (A : Nat → Nat → Int32) (Z : Int64) (c : Nat) (hc : c < 12) : rs sc 39 0 [some (.ref 17), some (.int (nI c))] [] [] (hp I A Z) =
    if tb (I 14) c = nI 0 then some (none, hp (upd (upd I 14 (sb (I 14) c)) 15 (I 15 ||| ((I 16 &&& nI 1) <<< (nI c &&& 31)))) A Z) else some (none, hp I A Z) := by
  simp (disch := omega) only [s_X5_comeTo_0_0, s_X5_comeTo_0_1, s_X5_comeTo_0_4, s_X5_comeTo_0_5, s_X5_comeTo_0_8, s_X5_comeTo_0_11, s_X5_comeTo_0_12, s_X5_comeTo_0_13, s_X5_comeTo_0_16, s_X5_comeTo_0_17, s_X5_comeTo_0_18, s_X5_comeTo_0_19, s_X5_comeTo_0_20, s_X5_comeTo_0_23, s_X5_comeTo_0_24, s_X5_comeTo_0_25, s_X5_comeTo_0_28, s_X5_comeTo_0_29, s_X5_comeTo_0_32, s_X5_comeTo_0_33, s_X5_comeTo_0_34, s_X5_comeTo_0_35, s_X5_comeTo_0_36, s_X5_comeTo_0_37, s_X5_comeTo_0_40, ↓i_lt_t, ↓i_lt_f, ↓i_le_t, ↓i_le_f, ↓i_eq_t, ↓i_eq_f, ↓i_m1a, ↓i_m1b, ↓i_m1c, ↓i_m1d, ↓i_m1e, ↓i_m1f, c_lt, c_le, c_eq, if_pos, if_neg, bnd_some, Option.toList, List.nil_append, List.cons_append, c_add, m1_lt, m1_eq1, m1_eq2, m1_le, ret_1, ret_0, if_true, if_false, eq_self_iff, bit_in, pk_us, pk_un]
  rfl
