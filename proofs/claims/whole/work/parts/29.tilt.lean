/-! TILT, on both sides (the first rows begin as rows of kit/laws/BITS) -/
def bt (x : Int32) (i : Nat) : Bool := x.toBitVec.getLsbD i
theorem b_or (x y : Int32) (i : Nat) : bt (x ||| y) i = (bt x i || bt y i) := by unfold bt; rw [Int32.toBitVec_or, BitVec.getLsbD_or]
theorem b_and (x y : Int32) (i : Nat) : bt (x &&& y) i = (bt x i && bt y i) := by unfold bt; rw [Int32.toBitVec_and, BitVec.getLsbD_and]
theorem b_xor (x y : Int32) (i : Nat) : bt (x ^^^ y) i = (bt x i ^^ bt y i) := by unfold bt; rw [Int32.toBitVec_xor, BitVec.getLsbD_xor]
theorem b_m1 : ∀ i, i < 32 → bt (-1) i = true := by decide +kernel
theorem b_0 (i : Nat) : bt (nI 0) i = false := BitVec.getLsbD_zero
theorem s_l : ∀ n, n < 32 → ((nI n &&& 31).toBitVec.smod 32).toNat = n := by decide +kernel
theorem b_sshr (n : Nat) (hn : n < 32) (x : Int32) {i : Nat} (hi : i < 32) : bt (x >>> (nI n &&& 31)) i = if n + i < 32 then bt x (n + i) else bt x 31 := by
  unfold bt
  rw [Int32.toBitVec_shiftRight, BitVec.sshiftRight_eq', s_l n hn, BitVec.getLsbD_sshiftRight, BitVec.msb_eq_getLsbD_last]
  simp [show ¬ 32 ≤ i by omega]
def mayF (s : Nat → Nat) : Nat → Int32
  | 0 => nI 0
  | j + 1 => mayF s j ||| (if s j = 2 ∨ s j = 3 then nI 1 <<< (nI j &&& 31) else nI 0)
theorem b_one (i j : Nat) (hi : i < 12) (hj : j < 12) : bt (nI 1 <<< (nI j &&& 31)) i = decide (i = j) := (by decide +kernel : ∀ i, i < 12 → ∀ j, j < 12 → bt (nI 1 <<< (nI j &&& 31)) i = decide (i = j)) i hi j hj
theorem b_may (s : Nat → Nat) (i : Nat) (hi : i < 12) : ∀ j, j ≤ 12 → bt (mayF s j) i = decide (i < j ∧ (s i = 2 ∨ s i = 3))
  | 0, _ => by rw [mayF, b_0]; simp
  | j + 1, hj => by
    rw [mayF, b_or, b_may s i hi j (by omega)]
    by_cases hm : s j = 2 ∨ s j = 3
    · rw [if_pos hm, b_one i j hi (by omega)]
      by_cases e : i = j
      · subst e; simp [hm]
      · have e2 : (i < j + 1) = (i < j) := propext (by omega)
        simp [e, e2]
    · rw [if_neg hm, b_0]
      by_cases e : i = j
      · subst e; simp [hm]
      · have e2 : (i < j + 1) = (i < j) := propext (by omega)
        simp [e2]
abbrev okT (s : Nat → Nat) (v : Nat) : Prop := nI v &&& (mayF s 12 ^^^ (-1)) = nI 0
def Tv (v c : Nat) : Nat := if tb (nI v) c = nI 1 then 1 else 0
theorem Tv_ok (v c : Nat) : tb (nI v) c = nI (Tv v c) ∧ Tv v c < 2 := by
  unfold Tv
  rcases tb_01 (nI v) c with h | h
  · rw [h, if_neg (by decide)]; exact ⟨rfl, by decide⟩
  · rw [h, if_pos rfl]; exact ⟨rfl, by decide⟩
theorem okT_sign {s : Nat → Nat} {v : Nat} (h : okT s v) (c : Nat) (hc : c < 12) (ht : Tv v c = 1) : s c = 2 ∨ s c = 3 := by
  have h1 : tb (nI v) c = nI 1 := by
    unfold Tv at ht
    split at ht
    · assumption
    · cases ht
  have h2 : bt (nI v) c = true := by
    have e : bt (tb (nI v) c) 0 = true := by rw [h1]; decide
    unfold tb at e
    rw [b_and, b_sshr c (by omega) _ (by decide)] at e
    simp at e
    rw [if_pos (by omega)] at e
    exact e.1
  have h3 : bt (nI v &&& (mayF s 12 ^^^ (-1))) c = false := by rw [h]; exact b_0 c
  rw [b_and, b_xor, h2, b_m1 c (by omega), b_may s c hc 12 (Nat.le_refl _)] at h3
  exact Decidable.or_iff_not_imp_left.mpr (by simpa [hc] using h3)
def flp (s T : Nat → Nat) (c : Nat) : Nat := if T c = 1 then 5 - s c else s c
theorem tn_flp (s T : Nat → Nat) (k c : Nat) (h : T c = 1 → s c = 2 ∨ s c = 3) (hT : T c < 2) : tn (flp s T c) k 0 = tn (s c) k (T c) := by
  unfold flp
  by_cases ht : T c = 1
  · rw [if_pos ht, ht]
    rcases h ht with e | e <;> rw [e] <;> rfl
  · rw [if_neg ht, show T c = 0 by omega]
theorem flp_0 (s T : Nat → Nat) (c : Nat) (h : T c = 1 → s c = 2 ∨ s c = 3) : (flp s T c = 0) = (s c = 0) := by
  unfold flp
  by_cases ht : T c = 1
  · rw [if_pos ht]
    rcases h ht with e | e <;> rw [e] <;> simp
  · rw [if_neg ht]
theorem sl_flp (s T : Nat → Nat) (d k : Nat) (h : ∀ c, c < 12 → (T c = 1 → s c = 2 ∨ s c = 3) ∧ T c < 2) : ∀ (f c w t : Nat) (se le : Int32), sl (flp s T) d k (fun _ => 0) f c w t se le = sl s d k T f c w t se le
  | 0, _, _, _, _, _ => rfl
  | f + 1, c, w, t, se, le => by
    unfold sl
    by_cases hb : bes c w < 12
    · obtain ⟨h1, h2⟩ := h _ hb
      rw [show sg (flp s T) (bes c w) = flp s T (bes c w) from if_pos hb, show sg s (bes c w) = s (bes c w) from if_pos hb, tn_flp s T k _ h1 h2]
      simp only [flp_0 s T _ h1, sl_flp s T d k h f]
    · rw [show sg (flp s T) (bes c w) = 1 from if_neg hb, show sg s (bes c w) = 1 from if_neg hb, if_neg (show ¬ (1 : Nat) = 0 by decide), if_neg (show ¬ (1 : Nat) = 0 by decide), if_pos (show tn 1 k 0 = 9 ∨ _ from Or.inl rfl), if_pos (show tn 1 k (T (bes c w)) = 9 ∨ _ from Or.inl rfl)]
theorem seen_flp (s T : Nat → Nat) (d k : Nat) (h : ∀ c, c < 12 → (T c = 1 → s c = 2 ∨ s c = 3) ∧ T c < 2) (cc cw : Nat → Nat) : ∀ n, seenF (flp s T) d k (fun _ => 0) cc cw n = seenF s d k T cc cw n
  | 0 => rfl
  | n + 1 => by
    rw [seenF, seenF, seen_flp s T d k h cc cw n]
    unfold sight
    rw [sl_flp s T d k h]
def tlt (s : Nat → Nat) (d k : Nat) (cc cw : Nat → Nat) (n c : Nat) : Nat → Nat
  | 0 => 4096
  | i + 1 => if okT s i ∧ (tlt s d k cc cw n c i = 4096 ∨ onN (nI i) 12 < onN (nI (tlt s d k cc cw n c i)) 12) ∧ tb (seenF s d k (Tv i) cc cw n) c = nI 1 then i else tlt s d k cc cw n c i
theorem tlt_le (s : Nat → Nat) (d k : Nat) (cc cw : Nat → Nat) (n c : Nat) : ∀ i, i ≤ 4096 → tlt s d k cc cw n c i = 4096 ∨ tlt s d k cc cw n c i < i
  | 0, _ => Or.inl rfl
  | i + 1, hi => by
    have h := tlt_le s d k cc cw n c i (by omega)
    unfold tlt
    split <;> omega
def qI (b : Nat) : Int32 := if b = 4096 then -1 else nI b
def fw (b : Nat) : Nat := if b = 4096 then 13 else onN (nI b) 12
theorem fw_le (b : Nat) : fw b ≤ 13 := by
  unfold fw
  have := onN_le (nI b) 12
  split <;> omega
theorem tiltable_ok (sc : Nat × (Nat → Int32)) (I : Nat → Int32) (A : Nat → Nat → Int32) (Z : Int64) (s : Nat → Nat) (d : Nat) (hX : XH s d I A) : rs sc 9 0 [some (.ref 3), none, none, none] [] [] (hp I A Z) = some (some (.int (mayF s 12)), hp I A Z) := by
  obtain ⟨g4, g5, gd1, gd9, gs⟩ := id hX
  have lp : ∀ (f j : Nat) (l3 : Option Value), j + f = 12 → rs sc 9 4 [some (.ref 3), some (.int (mayF s j)), some (.int (nI j)), l3] [] [] (hp I A Z) = some (some (.int (mayF s 12)), hp I A Z) := by
    intro f
    induction f with
    | zero =>
      intro j l3 hj
      have e : j = 12 := by omega
      subst e
      simp (disch := omega) only [s_X1_tiltable_0_0, s_X1_tiltable_0_1, s_X1_tiltable_0_2, s_X1_tiltable_0_3, s_X1_tiltable_0_4, s_X1_tiltable_0_5, s_X1_tiltable_0_7, s_X1_tiltable_0_10, s_X1_tiltable_0_11, s_X1_tiltable_0_12, s_X1_tiltable_0_15, s_X1_tiltable_0_16, s_X1_tiltable_0_17, s_X1_tiltable_0_18, s_X1_tiltable_0_19, s_X1_tiltable_0_22, s_X1_tiltable_0_23, s_X1_tiltable_0_24, s_X1_tiltable_0_27, s_X1_tiltable_0_28, s_X1_tiltable_0_31, s_X1_tiltable_0_32, s_X1_tiltable_0_35, s_X1_tiltable_0_36, s_X1_tiltable_0_37, s_X1_tiltable_0_38, s_X1_tiltable_0_39, s_X1_tiltable_0_42, s_X1_tiltable_0_45, s_X1_tiltable_0_46, ↓i_lt_t, ↓i_lt_f, ↓i_le_t, ↓i_le_f, ↓i_eq_t, ↓i_eq_f, ↓i_m1a, ↓i_m1b, ↓i_m1c, ↓i_m1d, ↓i_m1e, ↓i_m1f, c_lt, c_le, c_eq, if_pos, if_neg, bnd_some, Option.toList, List.nil_append, List.cons_append, c_add, m1_lt, m1_eq1, m1_eq2, m1_le, ret_1, ret_0, if_true, if_false, eq_self_iff]
    | succ f ih =>
      intro j l3 hj
      obtain ⟨g1, g2⟩ := gs j (by omega)
      have q := ih (j + 1) (some (.int (nI (s j)))) (by omega)
      rw [s_X1_tiltable_0_4]
      by_cases h : s j = 2 ∨ s j = 3
      · rw [show mayF s (j + 1) = mayF s j ||| (nI 1 <<< (nI j &&& 31)) by rw [mayF, if_pos h]] at q
        rcases h with h | h
        · simp (disch := omega) only [s_X1_tiltable_0_0, s_X1_tiltable_0_1, s_X1_tiltable_0_2, s_X1_tiltable_0_3, s_X1_tiltable_0_5, s_X1_tiltable_0_7, s_X1_tiltable_0_10, s_X1_tiltable_0_11, s_X1_tiltable_0_12, s_X1_tiltable_0_15, s_X1_tiltable_0_16, s_X1_tiltable_0_17, s_X1_tiltable_0_18, s_X1_tiltable_0_19, s_X1_tiltable_0_22, s_X1_tiltable_0_23, s_X1_tiltable_0_24, s_X1_tiltable_0_27, s_X1_tiltable_0_28, s_X1_tiltable_0_31, s_X1_tiltable_0_32, s_X1_tiltable_0_35, s_X1_tiltable_0_36, s_X1_tiltable_0_37, s_X1_tiltable_0_38, s_X1_tiltable_0_39, s_X1_tiltable_0_42, s_X1_tiltable_0_45, s_X1_tiltable_0_46, ↓i_lt_t, ↓i_lt_f, ↓i_le_t, ↓i_le_f, ↓i_eq_t, ↓i_eq_f, ↓i_m1a, ↓i_m1b, ↓i_m1c, ↓i_m1d, ↓i_m1e, ↓i_m1f, c_lt, c_le, c_eq, if_pos, if_neg, bnd_some, Option.toList, List.nil_append, List.cons_append, c_add, m1_lt, m1_eq1, m1_eq2, m1_le, ret_1, ret_0, if_true, if_false, eq_self_iff, signAt_in sc I A Z g4, g1, h, oneIf_1]
          rw [h] at q; exact q
        · simp (disch := omega) only [s_X1_tiltable_0_0, s_X1_tiltable_0_1, s_X1_tiltable_0_2, s_X1_tiltable_0_3, s_X1_tiltable_0_5, s_X1_tiltable_0_7, s_X1_tiltable_0_10, s_X1_tiltable_0_11, s_X1_tiltable_0_12, s_X1_tiltable_0_15, s_X1_tiltable_0_16, s_X1_tiltable_0_17, s_X1_tiltable_0_18, s_X1_tiltable_0_19, s_X1_tiltable_0_22, s_X1_tiltable_0_23, s_X1_tiltable_0_24, s_X1_tiltable_0_27, s_X1_tiltable_0_28, s_X1_tiltable_0_31, s_X1_tiltable_0_32, s_X1_tiltable_0_35, s_X1_tiltable_0_36, s_X1_tiltable_0_37, s_X1_tiltable_0_38, s_X1_tiltable_0_39, s_X1_tiltable_0_42, s_X1_tiltable_0_45, s_X1_tiltable_0_46, ↓i_lt_t, ↓i_lt_f, ↓i_le_t, ↓i_le_f, ↓i_eq_t, ↓i_eq_f, ↓i_m1a, ↓i_m1b, ↓i_m1c, ↓i_m1d, ↓i_m1e, ↓i_m1f, c_lt, c_le, c_eq, if_pos, if_neg, bnd_some, Option.toList, List.nil_append, List.cons_append, c_add, m1_lt, m1_eq1, m1_eq2, m1_le, ret_1, ret_0, if_true, if_false, eq_self_iff, signAt_in sc I A Z g4, g1, h, oneIf_1]
          rw [h] at q; exact q
      · rw [show mayF s (j + 1) = mayF s j ||| nI 0 by rw [mayF, if_neg h]] at q
        simp (disch := omega) only [s_X1_tiltable_0_0, s_X1_tiltable_0_1, s_X1_tiltable_0_2, s_X1_tiltable_0_3, s_X1_tiltable_0_5, s_X1_tiltable_0_7, s_X1_tiltable_0_10, s_X1_tiltable_0_11, s_X1_tiltable_0_12, s_X1_tiltable_0_15, s_X1_tiltable_0_16, s_X1_tiltable_0_17, s_X1_tiltable_0_18, s_X1_tiltable_0_19, s_X1_tiltable_0_22, s_X1_tiltable_0_23, s_X1_tiltable_0_24, s_X1_tiltable_0_27, s_X1_tiltable_0_28, s_X1_tiltable_0_31, s_X1_tiltable_0_32, s_X1_tiltable_0_35, s_X1_tiltable_0_36, s_X1_tiltable_0_37, s_X1_tiltable_0_38, s_X1_tiltable_0_39, s_X1_tiltable_0_42, s_X1_tiltable_0_45, s_X1_tiltable_0_46, ↓i_lt_t, ↓i_lt_f, ↓i_le_t, ↓i_le_f, ↓i_eq_t, ↓i_eq_f, ↓i_m1a, ↓i_m1b, ↓i_m1c, ↓i_m1d, ↓i_m1e, ↓i_m1f, c_lt, c_le, c_eq, if_pos, if_neg, bnd_some, Option.toList, List.nil_append, List.cons_append, c_add, m1_lt, m1_eq1, m1_eq2, m1_le, ret_1, ret_0, if_true, if_false, eq_self_iff, signAt_in sc I A Z g4, g1, oneIf_0, shl0]
        exact q
  have q := lp 12 0 none (by omega)
  simp (disch := omega) only [s_X1_tiltable_0_0, s_X1_tiltable_0_1, s_X1_tiltable_0_2, s_X1_tiltable_0_3, s_X1_tiltable_0_5, s_X1_tiltable_0_7, s_X1_tiltable_0_10, s_X1_tiltable_0_11, s_X1_tiltable_0_12, s_X1_tiltable_0_15, s_X1_tiltable_0_16, s_X1_tiltable_0_17, s_X1_tiltable_0_18, s_X1_tiltable_0_19, s_X1_tiltable_0_22, s_X1_tiltable_0_23, s_X1_tiltable_0_24, s_X1_tiltable_0_27, s_X1_tiltable_0_28, s_X1_tiltable_0_31, s_X1_tiltable_0_32, s_X1_tiltable_0_35, s_X1_tiltable_0_36, s_X1_tiltable_0_37, s_X1_tiltable_0_38, s_X1_tiltable_0_39, s_X1_tiltable_0_42, s_X1_tiltable_0_45, s_X1_tiltable_0_46, ↓i_lt_t, ↓i_lt_f, ↓i_le_t, ↓i_le_f, ↓i_eq_t, ↓i_eq_f, ↓i_m1a, ↓i_m1b, ↓i_m1c, ↓i_m1d, ↓i_m1e, ↓i_m1f, c_lt, c_le, c_eq, if_pos, if_neg, bnd_some, Option.toList, List.nil_append, List.cons_append, c_add, m1_lt, m1_eq1, m1_eq2, m1_le, ret_1, ret_0, if_true, if_false, eq_self_iff]
  exact q
theorem tilt_loop (sc : Nat × (Nat → Int32)) (A : Nat → Nat → Int32) (Z : Int64) (s : Nat → Nat) (d : Nat) (I0 : Nat → Int32) (hX : XH s d I0 A) (n k : Nat) (cc cw : Nat → Nat) (hC : XC n k cc cw I0 A) (c : Nat) (hc : c < 12) :
    ∀ (f i : Nat) (I : Nat → Int32) (l6 : Option Value), i + f = 4096 → Ag I I0 →
      ∃ I' : Nat → Int32, rs sc 76 19 [some (.ref 0), some (.int (nI c)), some (.int (mayF s 12 ^^^ (-1))), some (.int (qI (tlt s d k cc cw n c i))), some (.int (nI (fw (tlt s d k cc cw n c i)))), some (.int (nI i)), l6] [] [] (hp I A Z) = some (some (.int (qI (tlt s d k cc cw n c 4096))), hp I' A Z) ∧ Ag I' I0 := by
  intro f
  induction f with
  | zero =>
    intro i I l6 hi hag
    have e : i = 4096 := by omega
    subst e
    refine ⟨I, ?_, hag⟩
    rw [s_X7_fewestTilted_0_19]
    simp (disch := omega) only [s_X7_fewestTilted_0_0, s_X7_fewestTilted_0_1, s_X7_fewestTilted_0_4, s_X7_fewestTilted_0_7, s_X7_fewestTilted_0_8, s_X7_fewestTilted_0_9, s_X7_fewestTilted_0_10, s_X7_fewestTilted_0_11, s_X7_fewestTilted_0_12, s_X7_fewestTilted_0_14, s_X7_fewestTilted_0_16, s_X7_fewestTilted_0_17, s_X7_fewestTilted_0_21, s_X7_fewestTilted_0_24, s_X7_fewestTilted_0_27, s_X7_fewestTilted_0_29, s_X7_fewestTilted_0_30, s_X7_fewestTilted_0_31, s_X7_fewestTilted_0_34, s_X7_fewestTilted_0_36, s_X7_fewestTilted_0_39, s_X7_fewestTilted_0_41, s_X7_fewestTilted_0_44, s_X7_fewestTilted_0_45, s_X7_fewestTilted_0_48, s_X7_fewestTilted_0_49, s_X7_fewestTilted_0_51, s_X7_fewestTilted_0_53, s_X7_fewestTilted_0_56, s_X7_fewestTilted_0_57, s_X7_fewestTilted_0_59, s_X7_fewestTilted_0_62, s_X7_fewestTilted_0_63, s_X7_fewestTilted_0_66, s_X7_fewestTilted_0_67, s_X7_fewestTilted_0_70, s_X7_fewestTilted_0_72, s_X7_fewestTilted_0_73, s_X7_fewestTilted_0_75, s_X7_fewestTilted_0_78, s_X7_fewestTilted_0_80, s_X7_fewestTilted_0_83, s_X7_fewestTilted_0_86, s_X7_fewestTilted_0_87, ↓i_lt_t, ↓i_lt_f, ↓i_le_t, ↓i_le_f, ↓i_eq_t, ↓i_eq_f, ↓i_m1a, ↓i_m1b, ↓i_m1c, ↓i_m1d, ↓i_m1e, ↓i_m1f, c_lt, c_le, c_eq, if_pos, if_neg, bnd_some, Option.toList, List.nil_append, List.cons_append, c_add, m1_lt, m1_eq1, m1_eq2, m1_le, ret_1, ret_0, if_true, if_false, eq_self_iff]
  | succ f ih =>
    intro i I l6 hi hag
    have hbc : bcF (nI i) = nI (onN (nI i) 12) := bc_N ⟨i, by omega, rfl⟩
    have hon := onN_le (nI i) 12
    have hfw := fw_le (tlt s d k cc cw n c i)
    have hlt : (onN (nI i) 12 < fw (tlt s d k cc cw n c i)) ↔ (tlt s d k cc cw n c i = 4096 ∨ onN (nI i) 12 < onN (nI (tlt s d k cc cw n c i)) 12) := by
      unfold fw
      by_cases h : tlt s d k cc cw n c i = 4096
      · rw [if_pos h]; exact ⟨fun _ => Or.inl h, fun _ => by omega⟩
      · rw [if_neg h]; exact ⟨fun q => Or.inr q, fun q => by rcases q with q | q; exact absurd q h; exact q⟩
    by_cases hok : nI i &&& (mayF s 12 ^^^ (-1)) = nI 0
    · by_cases hfe : onN (nI i) 12 < fw (tlt s d k cc cw n c i)
      · obtain ⟨I1, r1, r2⟩ := any_ok sc I A Z s d (hX.ag hag) n k cc cw (hC.ag hag) (nI i) (Tv i) (fun c _ => Tv_ok i c)
        rcases tb_01 (seenF s d k (Tv i) cc cw n) c with hb | hb
        · have e : tlt s d k cc cw n c (i + 1) = tlt s d k cc cw n c i := by
            rw [tlt, if_neg]; rintro ⟨-, -, q⟩; rw [hb] at q; exact absurd q (by decide)
          obtain ⟨I', q1, q2⟩ := ih (i + 1) I1 (some (.int (nI 1))) (by omega) (r2.tr hag)
          rw [e] at q1
          refine ⟨I', ?_, q2⟩
          rw [s_X7_fewestTilted_0_19]
          simp (disch := omega) only [s_X7_fewestTilted_0_0, s_X7_fewestTilted_0_1, s_X7_fewestTilted_0_4, s_X7_fewestTilted_0_7, s_X7_fewestTilted_0_8, s_X7_fewestTilted_0_9, s_X7_fewestTilted_0_10, s_X7_fewestTilted_0_11, s_X7_fewestTilted_0_12, s_X7_fewestTilted_0_14, s_X7_fewestTilted_0_16, s_X7_fewestTilted_0_17, s_X7_fewestTilted_0_21, s_X7_fewestTilted_0_24, s_X7_fewestTilted_0_27, s_X7_fewestTilted_0_29, s_X7_fewestTilted_0_30, s_X7_fewestTilted_0_31, s_X7_fewestTilted_0_34, s_X7_fewestTilted_0_36, s_X7_fewestTilted_0_39, s_X7_fewestTilted_0_41, s_X7_fewestTilted_0_44, s_X7_fewestTilted_0_45, s_X7_fewestTilted_0_48, s_X7_fewestTilted_0_49, s_X7_fewestTilted_0_51, s_X7_fewestTilted_0_53, s_X7_fewestTilted_0_56, s_X7_fewestTilted_0_57, s_X7_fewestTilted_0_59, s_X7_fewestTilted_0_62, s_X7_fewestTilted_0_63, s_X7_fewestTilted_0_66, s_X7_fewestTilted_0_67, s_X7_fewestTilted_0_70, s_X7_fewestTilted_0_72, s_X7_fewestTilted_0_73, s_X7_fewestTilted_0_75, s_X7_fewestTilted_0_78, s_X7_fewestTilted_0_80, s_X7_fewestTilted_0_83, s_X7_fewestTilted_0_86, s_X7_fewestTilted_0_87, ↓i_lt_t, ↓i_lt_f, ↓i_le_t, ↓i_le_f, ↓i_eq_t, ↓i_eq_f, ↓i_m1a, ↓i_m1b, ↓i_m1c, ↓i_m1d, ↓i_m1e, ↓i_m1f, c_lt, c_le, c_eq, if_pos, if_neg, bnd_some, Option.toList, List.nil_append, List.cons_append, c_add, m1_lt, m1_eq1, m1_eq2, m1_le, ret_1, ret_0, if_true, if_false, eq_self_iff, ↓if_pos hok, bitCount_ok, hbc, r1, bit_in, hb]
          exact q1
        · have e : tlt s d k cc cw n c (i + 1) = i := by rw [tlt, if_pos ⟨hok, hlt.mp hfe, hb⟩]
          obtain ⟨I', q1, q2⟩ := ih (i + 1) I1 (some (.int (nI 1))) (by omega) (r2.tr hag)
          rw [e, show qI i = nI i from if_neg (by omega), show fw i = onN (nI i) 12 from if_neg (by omega)] at q1
          refine ⟨I', ?_, q2⟩
          rw [s_X7_fewestTilted_0_19]
          simp (disch := omega) only [s_X7_fewestTilted_0_0, s_X7_fewestTilted_0_1, s_X7_fewestTilted_0_4, s_X7_fewestTilted_0_7, s_X7_fewestTilted_0_8, s_X7_fewestTilted_0_9, s_X7_fewestTilted_0_10, s_X7_fewestTilted_0_11, s_X7_fewestTilted_0_12, s_X7_fewestTilted_0_14, s_X7_fewestTilted_0_16, s_X7_fewestTilted_0_17, s_X7_fewestTilted_0_21, s_X7_fewestTilted_0_24, s_X7_fewestTilted_0_27, s_X7_fewestTilted_0_29, s_X7_fewestTilted_0_30, s_X7_fewestTilted_0_31, s_X7_fewestTilted_0_34, s_X7_fewestTilted_0_36, s_X7_fewestTilted_0_39, s_X7_fewestTilted_0_41, s_X7_fewestTilted_0_44, s_X7_fewestTilted_0_45, s_X7_fewestTilted_0_48, s_X7_fewestTilted_0_49, s_X7_fewestTilted_0_51, s_X7_fewestTilted_0_53, s_X7_fewestTilted_0_56, s_X7_fewestTilted_0_57, s_X7_fewestTilted_0_59, s_X7_fewestTilted_0_62, s_X7_fewestTilted_0_63, s_X7_fewestTilted_0_66, s_X7_fewestTilted_0_67, s_X7_fewestTilted_0_70, s_X7_fewestTilted_0_72, s_X7_fewestTilted_0_73, s_X7_fewestTilted_0_75, s_X7_fewestTilted_0_78, s_X7_fewestTilted_0_80, s_X7_fewestTilted_0_83, s_X7_fewestTilted_0_86, s_X7_fewestTilted_0_87, ↓i_lt_t, ↓i_lt_f, ↓i_le_t, ↓i_le_f, ↓i_eq_t, ↓i_eq_f, ↓i_m1a, ↓i_m1b, ↓i_m1c, ↓i_m1d, ↓i_m1e, ↓i_m1f, c_lt, c_le, c_eq, if_pos, if_neg, bnd_some, Option.toList, List.nil_append, List.cons_append, c_add, m1_lt, m1_eq1, m1_eq2, m1_le, ret_1, ret_0, if_true, if_false, eq_self_iff, ↓if_pos hok, bitCount_ok, hbc, r1, bit_in, hb]
          exact q1
      · have e : tlt s d k cc cw n c (i + 1) = tlt s d k cc cw n c i := by
          rw [tlt, if_neg]; rintro ⟨-, q, -⟩; exact hfe (hlt.mpr q)
        obtain ⟨I', q1, q2⟩ := ih (i + 1) I (some (.int (nI 0))) (by omega) hag
        rw [e] at q1
        refine ⟨I', ?_, q2⟩
        rw [s_X7_fewestTilted_0_19]
        simp (disch := omega) only [s_X7_fewestTilted_0_0, s_X7_fewestTilted_0_1, s_X7_fewestTilted_0_4, s_X7_fewestTilted_0_7, s_X7_fewestTilted_0_8, s_X7_fewestTilted_0_9, s_X7_fewestTilted_0_10, s_X7_fewestTilted_0_11, s_X7_fewestTilted_0_12, s_X7_fewestTilted_0_14, s_X7_fewestTilted_0_16, s_X7_fewestTilted_0_17, s_X7_fewestTilted_0_21, s_X7_fewestTilted_0_24, s_X7_fewestTilted_0_27, s_X7_fewestTilted_0_29, s_X7_fewestTilted_0_30, s_X7_fewestTilted_0_31, s_X7_fewestTilted_0_34, s_X7_fewestTilted_0_36, s_X7_fewestTilted_0_39, s_X7_fewestTilted_0_41, s_X7_fewestTilted_0_44, s_X7_fewestTilted_0_45, s_X7_fewestTilted_0_48, s_X7_fewestTilted_0_49, s_X7_fewestTilted_0_51, s_X7_fewestTilted_0_53, s_X7_fewestTilted_0_56, s_X7_fewestTilted_0_57, s_X7_fewestTilted_0_59, s_X7_fewestTilted_0_62, s_X7_fewestTilted_0_63, s_X7_fewestTilted_0_66, s_X7_fewestTilted_0_67, s_X7_fewestTilted_0_70, s_X7_fewestTilted_0_72, s_X7_fewestTilted_0_73, s_X7_fewestTilted_0_75, s_X7_fewestTilted_0_78, s_X7_fewestTilted_0_80, s_X7_fewestTilted_0_83, s_X7_fewestTilted_0_86, s_X7_fewestTilted_0_87, ↓i_lt_t, ↓i_lt_f, ↓i_le_t, ↓i_le_f, ↓i_eq_t, ↓i_eq_f, ↓i_m1a, ↓i_m1b, ↓i_m1c, ↓i_m1d, ↓i_m1e, ↓i_m1f, c_lt, c_le, c_eq, if_pos, if_neg, bnd_some, Option.toList, List.nil_append, List.cons_append, c_add, m1_lt, m1_eq1, m1_eq2, m1_le, ret_1, ret_0, if_true, if_false, eq_self_iff, ↓if_pos hok, bitCount_ok, hbc]
        exact q1
    · have e : tlt s d k cc cw n c (i + 1) = tlt s d k cc cw n c i := by
        rw [tlt, if_neg]; rintro ⟨q, -⟩; exact hok q
      obtain ⟨I', q1, q2⟩ := ih (i + 1) I (some (.int (nI 0))) (by omega) hag
      rw [e] at q1
      refine ⟨I', ?_, q2⟩
      rw [s_X7_fewestTilted_0_19]
      simp (disch := omega) only [s_X7_fewestTilted_0_0, s_X7_fewestTilted_0_1, s_X7_fewestTilted_0_4, s_X7_fewestTilted_0_7, s_X7_fewestTilted_0_8, s_X7_fewestTilted_0_9, s_X7_fewestTilted_0_10, s_X7_fewestTilted_0_11, s_X7_fewestTilted_0_12, s_X7_fewestTilted_0_14, s_X7_fewestTilted_0_16, s_X7_fewestTilted_0_17, s_X7_fewestTilted_0_21, s_X7_fewestTilted_0_24, s_X7_fewestTilted_0_27, s_X7_fewestTilted_0_29, s_X7_fewestTilted_0_30, s_X7_fewestTilted_0_31, s_X7_fewestTilted_0_34, s_X7_fewestTilted_0_36, s_X7_fewestTilted_0_39, s_X7_fewestTilted_0_41, s_X7_fewestTilted_0_44, s_X7_fewestTilted_0_45, s_X7_fewestTilted_0_48, s_X7_fewestTilted_0_49, s_X7_fewestTilted_0_51, s_X7_fewestTilted_0_53, s_X7_fewestTilted_0_56, s_X7_fewestTilted_0_57, s_X7_fewestTilted_0_59, s_X7_fewestTilted_0_62, s_X7_fewestTilted_0_63, s_X7_fewestTilted_0_66, s_X7_fewestTilted_0_67, s_X7_fewestTilted_0_70, s_X7_fewestTilted_0_72, s_X7_fewestTilted_0_73, s_X7_fewestTilted_0_75, s_X7_fewestTilted_0_78, s_X7_fewestTilted_0_80, s_X7_fewestTilted_0_83, s_X7_fewestTilted_0_86, s_X7_fewestTilted_0_87, ↓i_lt_t, ↓i_lt_f, ↓i_le_t, ↓i_le_f, ↓i_eq_t, ↓i_eq_f, ↓i_m1a, ↓i_m1b, ↓i_m1c, ↓i_m1d, ↓i_m1e, ↓i_m1f, c_lt, c_le, c_eq, if_pos, if_neg, bnd_some, Option.toList, List.nil_append, List.cons_append, c_add, m1_lt, m1_eq1, m1_eq2, m1_le, ret_1, ret_0, if_true, if_false, eq_self_iff, ↓if_neg hok]
      exact q1
theorem fewest_ok (sc : Nat × (Nat → Int32)) (I : Nat → Int32) (A : Nat → Nat → Int32) (Z : Int64) (s : Nat → Nat) (d : Nat) (hX : XH s d I A) (n k : Nat) (cc cw : Nat → Nat) (hC : XC n k cc cw I A) (c : Nat) (hc : c < 12) :
    ∃ I' : Nat → Int32, rs sc 76 0 [some (.ref 0), some (.int (nI c)), none, none, none, none, none] [] [] (hp I A Z) = some (some (.int (qI (tlt s d k cc cw n c 4096))), hp I' A Z) ∧ Ag I' I := by
  obtain ⟨I', q1, q2⟩ := tilt_loop sc A Z s d I hX n k cc cw hC c hc 4096 0 I none (by omega) (Ag.rf I)
  refine ⟨I', ?_, q2⟩
  simp (disch := omega) only [s_X7_fewestTilted_0_0, s_X7_fewestTilted_0_1, s_X7_fewestTilted_0_4, s_X7_fewestTilted_0_7, s_X7_fewestTilted_0_8, s_X7_fewestTilted_0_9, s_X7_fewestTilted_0_10, s_X7_fewestTilted_0_11, s_X7_fewestTilted_0_12, s_X7_fewestTilted_0_14, s_X7_fewestTilted_0_16, s_X7_fewestTilted_0_17, s_X7_fewestTilted_0_21, s_X7_fewestTilted_0_24, s_X7_fewestTilted_0_27, s_X7_fewestTilted_0_29, s_X7_fewestTilted_0_30, s_X7_fewestTilted_0_31, s_X7_fewestTilted_0_34, s_X7_fewestTilted_0_36, s_X7_fewestTilted_0_39, s_X7_fewestTilted_0_41, s_X7_fewestTilted_0_44, s_X7_fewestTilted_0_45, s_X7_fewestTilted_0_48, s_X7_fewestTilted_0_49, s_X7_fewestTilted_0_51, s_X7_fewestTilted_0_53, s_X7_fewestTilted_0_56, s_X7_fewestTilted_0_57, s_X7_fewestTilted_0_59, s_X7_fewestTilted_0_62, s_X7_fewestTilted_0_63, s_X7_fewestTilted_0_66, s_X7_fewestTilted_0_67, s_X7_fewestTilted_0_70, s_X7_fewestTilted_0_72, s_X7_fewestTilted_0_73, s_X7_fewestTilted_0_75, s_X7_fewestTilted_0_78, s_X7_fewestTilted_0_80, s_X7_fewestTilted_0_83, s_X7_fewestTilted_0_86, s_X7_fewestTilted_0_87, ↓i_lt_t, ↓i_lt_f, ↓i_le_t, ↓i_le_f, ↓i_eq_t, ↓i_eq_f, ↓i_m1a, ↓i_m1b, ↓i_m1c, ↓i_m1d, ↓i_m1e, ↓i_m1f, c_lt, c_le, c_eq, if_pos, if_neg, bnd_some, Option.toList, List.nil_append, List.cons_append, c_add, m1_lt, m1_eq1, m1_eq2, m1_le, ret_1, ret_0, if_true, if_false, eq_self_iff, tiltable_ok sc I A Z s d hX]
  exact q1
