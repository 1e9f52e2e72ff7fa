/-! TWELVE BITS: how many there are -/
def P12 (x : Int32) : Prop := ∃ v, v < 4096 ∧ x = nI v
theorem nx_or (a b : Nat) : nI a ||| nI b = nI (a ||| b) := by
  apply Int32.toBitVec_inj.mp
  rw [Int32.toBitVec_or]
  show BitVec.ofNat 32 a ||| BitVec.ofNat 32 b = BitVec.ofNat 32 (a ||| b)
  rw [BitVec.ofNat_or]
theorem P12.or {x y : Int32} (hx : P12 x) (hy : P12 y) : P12 (x ||| y) := by
  obtain ⟨a, ha, rfl⟩ := hx
  obtain ⟨b, hb, rfl⟩ := hy
  exact ⟨a ||| b, Nat.or_lt_two_pow (n := 12) ha hb, nx_or a b⟩
theorem P12.zero : P12 (nI 0) := ⟨0, by decide, rfl⟩
theorem P12.one {c : Nat} (hc : c < 12) : P12 (nI 1 <<< (nI c &&& 31)) := ⟨2 ^ c, (by decide +kernel : ∀ c, c < 12 → 2 ^ c < 4096 ∧ nI 1 <<< (nI c &&& 31) = nI (2 ^ c)) c hc⟩
theorem P12.sb {x : Int32} (hx : P12 x) {c : Nat} (hc : c < 12) : P12 (sb x c) := hx.or (P12.one hc)
theorem sl_P12 (s : Nat → Nat) (d k : Nat) (T : Nat → Nat) : ∀ (f c w t : Nat) (se le : Int32), c < 12 → P12 se → P12 (sl s d k T f c w t se le).1
  | 0, _, _, _, _, _, _, h => h
  | f + 1, c, w, t, se, le, hc, h => by
    unfold sl
    by_cases hb : bes c w < 12
    · repeat' split
      · exact sl_P12 s d k T f _ _ _ _ _ hb (h.sb hb)
      · exact sl_P12 s d k T f _ _ _ _ _ hb h
      · exact h
      · exact sl_P12 s d k T f _ _ _ _ _ hb h
      · exact sl_P12 s d k T f _ _ _ _ _ hb h
    · have e : sg s (bes c w) = 1 := if_neg hb
      rw [e, if_neg (by decide), if_pos (show tn 1 k (T (bes c w)) = 9 ∨ _ from Or.inl rfl)]
      exact h
theorem sight_P12 (s : Nat → Nat) (d k : Nat) (T : Nat → Nat) (c w : Nat) (hc : c < 12) : P12 (sight s d k T c w).1 := sl_P12 s d k T 41 c w 0 _ _ hc P12.zero
theorem seenF_P12 (s : Nat → Nat) (d k : Nat) (T : Nat → Nat) (cc cw : Nat → Nat) : ∀ n, (∀ j, j < n → cc j < 12) → P12 (seenF s d k T cc cw n)
  | 0, _ => P12.zero
  | n + 1, h => (seenF_P12 s d k T cc cw n (fun j hj => h j (by omega))).or (sight_P12 s d k T _ _ (h n (by omega)))
theorem bitCount_ok (sc : Nat × (Nat → Int32)) (I : Nat → Int32) (A : Nat → Nat → Int32) (Z : Int64) (x : Int32) : rs sc 139 0 [some (.int x)] [] [] (hp I A Z) = some (some (.int (bcF x)), hp I A Z) := by
  simp only [s_J6_bitCountA_0_0, s_J6_bitCountA_0_1, s_J6_bitCountA_0_2, s_J6_bitCountA_0_3, s_J6_bitCountA_0_4, s_J6_bitCountA_0_7, s_J6_bitCountA_0_8, s_J6_bitCountA_0_9, s_J6_bitCountA_0_10, s_J6_bitCountA_0_11, s_J6_bitCountA_0_14, s_J6_bitCountA_0_15, s_J6_bitCountA_0_16, s_J6_bitCountA_0_17, s_J6_bitCountA_0_18, s_J6_bitCountA_0_21, s_J6_bitCountA_0_22, s_J6_bitCountA_0_23, s_J6_bitCountA_0_24, s_J6_bitCountA_0_25, s_J6_bitCountA_0_26, s_J6_bitCountA_0_27, s_J6_bitCountA_0_28, s_J6_bitCountA_0_29, s_J6_bitCountA_0_32, s_J6_bitCountA_0_33, s_J6_bitCountA_0_34, s_J6_bitCountA_0_35, s_J6_bitCountA_0_36, s_J6_bitCountA_0_38, s_J6_bitCountA_0_39, s_J6_bitCountA_0_40, s_J6_bitCountA_0_41, s_J6_bitCountA_0_42, s_J6_bitCountA_0_43, s_J6_bitCountA_0_45, s_J6_bitCountA_0_46, s_J6_bitCountA_0_47, s_J6_bitCountA_0_48, s_J6_bitCountA_0_49, s_J6_bitCountA_0_51, s_J6_bitCountA_0_52]
  rfl
set_option maxRecDepth 100000 in
theorem tb_01 (x : Int32) (j : Nat) : tb x j = nI 0 ∨ tb x j = nI 1 := by
  unfold tb
  obtain ⟨q, h1, h2⟩ := pk_andE (x >>> (nI j &&& 31)) (m := nI 1) 1 (by decide)
  rw [h2]
  rcases (show q = 0 ∨ q = 1 by omega) with rfl | rfl
  · exact Or.inl rfl
  · exact Or.inr rfl
def onN (x : Int32) : Nat → Nat
  | 0 => 0
  | j + 1 => onN x j + (if tb x j = nI 1 then 1 else 0)
theorem onF_N (x : Int32) : ∀ j, onF x j = nI (onN x j)
  | 0 => rfl
  | j + 1 => by
    rw [onF, onN, onF_N x j]
    rcases tb_01 x j with h | h
    · rw [h, if_neg (by decide), c_add]
    · rw [h, if_pos rfl, c_add]
theorem onN_le (x : Int32) : ∀ j, onN x j ≤ j
  | 0 => Nat.le_refl _
  | j + 1 => by
    have := onN_le x j
    unfold onN
    split <;> omega
theorem bc_N {x : Int32} (h : P12 x) : bcF x = nI (onN x 12) := by
  obtain ⟨v, hv, rfl⟩ := h
  rw [bc_on v hv, onF_N]
theorem ones_ok (sc : Nat × (Nat → Int32)) (I : Nat → Int32) (A : Nat → Nat → Int32) (Z : Int64) (x : Int32) : rs sc 118 0 [some (.int x), none, none] [] [] (hp I A Z) = some (some (.int (nI (onN x 12))), hp I A Z) := by
  have lp : ∀ (f j : Nat), j + f = 12 → rs sc 118 4 [some (.int x), some (.int (onF x j)), some (.int (nI j))] [] [] (hp I A Z) = some (some (.int (onF x 12)), hp I A Z) := by
    intro f
    induction f with
    | zero =>
      intro j hj
      have e : j = 12 := by omega
      subst e
      simp (disch := omega) only [s_X8_ones_0_0, s_X8_ones_0_1, s_X8_ones_0_2, s_X8_ones_0_3, s_X8_ones_0_4, s_X8_ones_0_5, s_X8_ones_0_7, s_X8_ones_0_10, s_X8_ones_0_11, s_X8_ones_0_12, s_X8_ones_0_13, s_X8_ones_0_14, s_X8_ones_0_15, s_X8_ones_0_16, s_X8_ones_0_17, s_X8_ones_0_18, s_X8_ones_0_21, s_X8_ones_0_24, s_X8_ones_0_25, ↓i_lt_t, ↓i_lt_f, ↓i_le_t, ↓i_le_f, ↓i_eq_t, ↓i_eq_f, ↓i_m1a, ↓i_m1b, ↓i_m1c, ↓i_m1d, ↓i_m1e, ↓i_m1f, c_lt, c_le, c_eq, if_pos, if_neg, bnd_some, Option.toList, List.nil_append, List.cons_append, c_add, m1_lt, m1_eq1, m1_eq2, m1_le, ret_1, ret_0, if_true, if_false, eq_self_iff]
    | succ f ih =>
      intro j hj
      have q := ih (j + 1) (by omega)
      rw [s_X8_ones_0_4]
      simp (disch := omega) only [s_X8_ones_0_0, s_X8_ones_0_1, s_X8_ones_0_2, s_X8_ones_0_3, s_X8_ones_0_5, s_X8_ones_0_7, s_X8_ones_0_10, s_X8_ones_0_11, s_X8_ones_0_12, s_X8_ones_0_13, s_X8_ones_0_14, s_X8_ones_0_15, s_X8_ones_0_16, s_X8_ones_0_17, s_X8_ones_0_18, s_X8_ones_0_21, s_X8_ones_0_24, s_X8_ones_0_25, ↓i_lt_t, ↓i_lt_f, ↓i_le_t, ↓i_le_f, ↓i_eq_t, ↓i_eq_f, ↓i_m1a, ↓i_m1b, ↓i_m1c, ↓i_m1d, ↓i_m1e, ↓i_m1f, c_lt, c_le, c_eq, if_pos, if_neg, bnd_some, Option.toList, List.nil_append, List.cons_append, c_add, m1_lt, m1_eq1, m1_eq2, m1_le, ret_1, ret_0, if_true, if_false, eq_self_iff]
      exact q
  have q := lp 12 0 (by omega)
  rw [← onF_N]
  simp (disch := omega) only [s_X8_ones_0_0, s_X8_ones_0_1, s_X8_ones_0_2, s_X8_ones_0_3, s_X8_ones_0_5, s_X8_ones_0_7, s_X8_ones_0_10, s_X8_ones_0_11, s_X8_ones_0_12, s_X8_ones_0_13, s_X8_ones_0_14, s_X8_ones_0_15, s_X8_ones_0_16, s_X8_ones_0_17, s_X8_ones_0_18, s_X8_ones_0_21, s_X8_ones_0_24, s_X8_ones_0_25, ↓i_lt_t, ↓i_lt_f, ↓i_le_t, ↓i_le_f, ↓i_eq_t, ↓i_eq_f, ↓i_m1a, ↓i_m1b, ↓i_m1c, ↓i_m1d, ↓i_m1e, ↓i_m1f, c_lt, c_le, c_eq, if_pos, if_neg, bnd_some, Option.toList, List.nil_append, List.cons_append, c_add, m1_lt, m1_eq1, m1_eq2, m1_le, ret_1, ret_0, if_true, if_false, eq_self_iff]
  exact q
