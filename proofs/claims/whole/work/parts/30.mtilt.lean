/-! TILT, of the reference -/
def AgS (A A0 : Nat → Nat → Int32) : Prop := (∀ p, p ≠ 28 → A p = A0 p) ∧ EqN 12 (A 28) (A0 28)
theorem AgS.rf (A : Nat → Nat → Int32) : AgS A A := ⟨fun _ _ => rfl, fun _ _ => rfl⟩
theorem AgS.tr {A B C : Nat → Nat → Int32} (h : AgS A B) (h2 : AgS B C) : AgS A C := ⟨fun p a => (h.1 p a).trans (h2.1 p a), fun j hj => (h.2 j hj).trans (h2.2 j hj)⟩
theorem mMay (sc : Nat × (Nat → Int32)) (I : Nat → Int32) (A : Nat → Nat → Int32) (Z : Int64) (g : Nat) (hg : g < 7) : rs sc 121 0 [some (.int (nI g))] [] [] (hp I A Z) = some (some (.int (nI (if g = 2 ∨ g = 3 then 1 else 0))), hp I A Z) := by
  by_cases h : g = 2
  · rw [if_pos (Or.inl h)]
    simp (disch := omega) only [s_X8_mayTilt_0_0, s_X8_mayTilt_0_1, s_X8_mayTilt_0_2, s_X8_mayTilt_0_5, s_X8_mayTilt_0_6, s_X8_mayTilt_0_7, s_X8_mayTilt_0_10, s_X8_mayTilt_0_11, s_X8_mayTilt_0_14, s_X8_mayTilt_0_15_b0, s_X8_mayTilt_0_15_b1, ↓i_lt_t, ↓i_lt_f, ↓i_le_t, ↓i_le_f, ↓i_eq_t, ↓i_eq_f, ↓i_m1a, ↓i_m1b, ↓i_m1c, ↓i_m1d, ↓i_m1e, ↓i_m1f, c_lt, c_le, c_eq, if_pos, if_neg, bnd_some, Option.toList, List.nil_append, List.cons_append, c_add, m1_lt, m1_eq1, m1_eq2, m1_le, ret_1, ret_0, if_true, if_false, eq_self_iff]
  · by_cases h3 : g = 3
    · rw [if_pos (Or.inr h3)]
      simp (disch := omega) only [s_X8_mayTilt_0_0, s_X8_mayTilt_0_1, s_X8_mayTilt_0_2, s_X8_mayTilt_0_5, s_X8_mayTilt_0_6, s_X8_mayTilt_0_7, s_X8_mayTilt_0_10, s_X8_mayTilt_0_11, s_X8_mayTilt_0_14, s_X8_mayTilt_0_15_b0, s_X8_mayTilt_0_15_b1, ↓i_lt_t, ↓i_lt_f, ↓i_le_t, ↓i_le_f, ↓i_eq_t, ↓i_eq_f, ↓i_m1a, ↓i_m1b, ↓i_m1c, ↓i_m1d, ↓i_m1e, ↓i_m1f, c_lt, c_le, c_eq, if_pos, if_neg, bnd_some, Option.toList, List.nil_append, List.cons_append, c_add, m1_lt, m1_eq1, m1_eq2, m1_le, ret_1, ret_0, if_true, if_false, eq_self_iff]
    · rw [if_neg (fun q => by rcases q with q | q; exact h q; exact h3 q)]
      simp (disch := omega) only [s_X8_mayTilt_0_0, s_X8_mayTilt_0_1, s_X8_mayTilt_0_2, s_X8_mayTilt_0_5, s_X8_mayTilt_0_6, s_X8_mayTilt_0_7, s_X8_mayTilt_0_10, s_X8_mayTilt_0_11, s_X8_mayTilt_0_14, s_X8_mayTilt_0_15_b0, s_X8_mayTilt_0_15_b1, ↓i_lt_t, ↓i_lt_f, ↓i_le_t, ↓i_le_f, ↓i_eq_t, ↓i_eq_f, ↓i_m1a, ↓i_m1b, ↓i_m1c, ↓i_m1d, ↓i_m1e, ↓i_m1f, c_lt, c_le, c_eq, if_pos, if_neg, bnd_some, Option.toList, List.nil_append, List.cons_append, c_add, m1_lt, m1_eq1, m1_eq2, m1_le, ret_1, ret_0, if_true, if_false, eq_self_iff]
theorem change_ok (sc : Nat × (Nat → Int32)) (I : Nat → Int32) (A : Nat → Nat → Int32) (Z : Int64) (s T : Nat → Nat) (x : Int32) (hs : ∀ c, c < 12 → A 28 c = nI (s c) ∧ s c < 7) (hT : ∀ c, c < 12 → tb x c = nI (T c) ∧ T c < 2 ∧ (T c = 1 → s c = 2 ∨ s c = 3)) :
    ∃ g : Nat → Int32, rs sc 122 0 [some (.ref 26), some (.int x), none] [] [] (hp I A Z) = some (none, hp I (setA A 28 g) Z) ∧ ∀ c, c < 12 → g c = nI (flp s T c) := by
  have lp : ∀ (f j : Nat) (g : Nat → Int32), j + f = 12 → (∀ c, c < j → g c = nI (flp s T c)) → (∀ c, j ≤ c → c < 12 → g c = nI (s c)) → ∃ g' : Nat → Int32, rs sc 122 2 [some (.ref 26), some (.int x), some (.int (nI j))] [] [] (hp I (setA A 28 g) Z) = some (none, hp I (setA A 28 g') Z) ∧ ∀ c, c < 12 → g' c = nI (flp s T c) := by
    intro f
    induction f with
    | zero =>
      intro j g hj h1 h2
      have e : j = 12 := by omega
      subst e
      exact ⟨g, by simp (disch := omega) only [s_X8_change_0_0, s_X8_change_0_1, s_X8_change_0_2, s_X8_change_0_3, s_X8_change_0_5, s_X8_change_0_8, s_X8_change_0_9, s_X8_change_0_12, s_X8_change_0_13, s_X8_change_0_14, s_X8_change_0_15, s_X8_change_0_16, s_X8_change_0_17, s_X8_change_0_18, s_X8_change_0_21, s_X8_change_0_22, s_X8_change_0_25, s_X8_change_0_26, s_X8_change_0_27, s_X8_change_0_30, s_X8_change_0_31, s_X8_change_0_32, s_X8_change_0_35, s_X8_change_0_36, s_X8_change_0_37, s_X8_change_0_38, s_X8_change_0_39, s_X8_change_0_42, s_X8_change_0_45, ↓i_lt_t, ↓i_lt_f, ↓i_le_t, ↓i_le_f, ↓i_eq_t, ↓i_eq_f, ↓i_m1a, ↓i_m1b, ↓i_m1c, ↓i_m1d, ↓i_m1e, ↓i_m1f, c_lt, c_le, c_eq, if_pos, if_neg, bnd_some, Option.toList, List.nil_append, List.cons_append, c_add, m1_lt, m1_eq1, m1_eq2, m1_le, ret_1, ret_0, if_true, if_false, eq_self_iff], h1⟩
    | succ f ih =>
      intro j g hj h1 h2
      obtain ⟨t1, t2, t3⟩ := hT j (by omega)
      have t1' : (x >>> (nI j &&& 31)) &&& nI 1 = nI (T j) := t1
      have hgj := h2 j (Nat.le_refl _) (by omega)
      obtain ⟨g', q1, q2⟩ := ih (j + 1) (upd g j (nI (flp s T j))) (by omega) (fun c hc => by
        by_cases e : c = j
        · subst e; exact pk_us
        · rw [pk_un e]; exact h1 c (by omega)) (fun c hc hc2 => by rw [pk_un (by omega)]; exact h2 c (by omega) hc2)
      refine ⟨g', ?_, q2⟩
      rw [s_X8_change_0_2]
      by_cases ht : T j = 1
      · have e : flp s T j = 5 - s j := if_pos ht
        rw [e] at q1
        have h23 := t3 ht
        simp (disch := omega) only [s_X8_change_0_0, s_X8_change_0_1, s_X8_change_0_3, s_X8_change_0_5, s_X8_change_0_8, s_X8_change_0_9, s_X8_change_0_12, s_X8_change_0_13, s_X8_change_0_14, s_X8_change_0_15, s_X8_change_0_16, s_X8_change_0_17, s_X8_change_0_18, s_X8_change_0_21, s_X8_change_0_22, s_X8_change_0_25, s_X8_change_0_26, s_X8_change_0_27, s_X8_change_0_30, s_X8_change_0_31, s_X8_change_0_32, s_X8_change_0_35, s_X8_change_0_36, s_X8_change_0_37, s_X8_change_0_38, s_X8_change_0_39, s_X8_change_0_42, s_X8_change_0_45, ↓i_lt_t, ↓i_lt_f, ↓i_le_t, ↓i_le_f, ↓i_eq_t, ↓i_eq_f, ↓i_m1a, ↓i_m1b, ↓i_m1c, ↓i_m1d, ↓i_m1e, ↓i_m1f, c_lt, c_le, c_eq, if_pos, if_neg, bnd_some, Option.toList, List.nil_append, List.cons_append, c_add, m1_lt, m1_eq1, m1_eq2, m1_le, ret_1, ret_0, if_true, if_false, eq_self_iff, t1', ht, sa_s, hgj, c_sub, ua_sa]
        exact q1
      · have e : flp s T j = s j := if_neg ht
        rw [e] at q1
        have ht0 : T j = 0 := by omega
        simp (disch := omega) only [s_X8_change_0_0, s_X8_change_0_1, s_X8_change_0_3, s_X8_change_0_5, s_X8_change_0_8, s_X8_change_0_9, s_X8_change_0_12, s_X8_change_0_13, s_X8_change_0_14, s_X8_change_0_15, s_X8_change_0_16, s_X8_change_0_17, s_X8_change_0_18, s_X8_change_0_21, s_X8_change_0_22, s_X8_change_0_25, s_X8_change_0_26, s_X8_change_0_27, s_X8_change_0_30, s_X8_change_0_31, s_X8_change_0_32, s_X8_change_0_35, s_X8_change_0_36, s_X8_change_0_37, s_X8_change_0_38, s_X8_change_0_39, s_X8_change_0_42, s_X8_change_0_45, ↓i_lt_t, ↓i_lt_f, ↓i_le_t, ↓i_le_f, ↓i_eq_t, ↓i_eq_f, ↓i_m1a, ↓i_m1b, ↓i_m1c, ↓i_m1d, ↓i_m1e, ↓i_m1f, c_lt, c_le, c_eq, if_pos, if_neg, bnd_some, Option.toList, List.nil_append, List.cons_append, c_add, m1_lt, m1_eq1, m1_eq2, m1_le, ret_1, ret_0, if_true, if_false, eq_self_iff, t1', ht0, sa_s, hgj, ua_sa]
        exact q1
  obtain ⟨g, q1, q2⟩ := lp 12 0 (A 28) (by omega) (fun i hi => by omega) (fun c _ hc => (hs c hc).1)
  rw [sa_id] at q1
  refine ⟨g, ?_, q2⟩
  simp (disch := omega) only [s_X8_change_0_0, s_X8_change_0_1, s_X8_change_0_3, s_X8_change_0_5, s_X8_change_0_8, s_X8_change_0_9, s_X8_change_0_12, s_X8_change_0_13, s_X8_change_0_14, s_X8_change_0_15, s_X8_change_0_16, s_X8_change_0_17, s_X8_change_0_18, s_X8_change_0_21, s_X8_change_0_22, s_X8_change_0_25, s_X8_change_0_26, s_X8_change_0_27, s_X8_change_0_30, s_X8_change_0_31, s_X8_change_0_32, s_X8_change_0_35, s_X8_change_0_36, s_X8_change_0_37, s_X8_change_0_38, s_X8_change_0_39, s_X8_change_0_42, s_X8_change_0_45, ↓i_lt_t, ↓i_lt_f, ↓i_le_t, ↓i_le_f, ↓i_eq_t, ↓i_eq_f, ↓i_m1a, ↓i_m1b, ↓i_m1c, ↓i_m1d, ↓i_m1e, ↓i_m1f, c_lt, c_le, c_eq, if_pos, if_neg, bnd_some, Option.toList, List.nil_append, List.cons_append, c_add, m1_lt, m1_eq1, m1_eq2, m1_le, ret_1, ret_0, if_true, if_false, eq_self_iff]
  exact q1
theorem flp_flp (s T : Nat → Nat) (c : Nat) (h : T c = 1 → s c = 2 ∨ s c = 3) : flp (flp s T) T c = s c := by
  unfold flp
  by_cases ht : T c = 1
  · rw [if_pos ht, if_pos ht]
    rcases h ht with e | e <;> rw [e]
  · rw [if_neg ht, if_neg ht]
theorem flp_lt (s T : Nat → Nat) (c : Nat) (hs : s c < 7) (h : T c = 1 → s c = 2 ∨ s c = 3) : flp s T c < 7 ∧ (T c = 1 → flp s T c = 2 ∨ flp s T c = 3) := by
  unfold flp
  by_cases ht : T c = 1
  · rw [if_pos ht]
    rcases h ht with e | e <;> rw [e] <;> simp
  · rw [if_neg ht]; exact ⟨hs, fun q => absurd q ht⟩
theorem mTilt_loop (sc : Nat × (Nat → Int32)) (Z : Int64) (s : Nat → Nat) (d k : Nat) (I0 : Nat → Int32) (A0 : Nat → Nat → Int32) (hX : MH s d k I0 A0) (n : Nat) (cc cw : Nat → Nat) (hC : MC2 n cc cw I0 A0) (c : Nat) (hc : c < 12) :
    ∀ (f i : Nat) (I : Nat → Int32) (A : Nat → Nat → Int32), i + f = 4096 → AgM I I0 → AgS A A0 →
      ∃ (I' : Nat → Int32) (A' : Nat → Nat → Int32), rs sc 123 43 [some (.ref 26), some (.int (nI c)), some (.int (mayF s 12)), some (.int (qI (tlt s d k cc cw n c i))), some (.int (nI i))] [] [] (hp I A Z) = some (some (.int (qI (tlt s d k cc cw n c 4096))), hp I' A' Z) ∧ AgM I' I0 ∧ AgS A' A0 := by
  intro f
  induction f with
  | zero =>
    intro i I A hi hag hag2
    have e : i = 4096 := by omega
    subst e
    refine ⟨I, A, ?_, hag, hag2⟩
    rw [s_X8_tiltOf_0_43]
    simp (disch := omega) only [s_X8_tiltOf_0_0, s_X8_tiltOf_0_1, s_X8_tiltOf_0_2, s_X8_tiltOf_0_3, s_X8_tiltOf_0_4, s_X8_tiltOf_0_5, s_X8_tiltOf_0_7, s_X8_tiltOf_0_10, s_X8_tiltOf_0_11, s_X8_tiltOf_0_12, s_X8_tiltOf_0_15, s_X8_tiltOf_0_16, s_X8_tiltOf_0_17, s_X8_tiltOf_0_20, s_X8_tiltOf_0_23, s_X8_tiltOf_0_24, s_X8_tiltOf_0_25, s_X8_tiltOf_0_26, s_X8_tiltOf_0_29, s_X8_tiltOf_0_30, s_X8_tiltOf_0_31, s_X8_tiltOf_0_32, s_X8_tiltOf_0_35, s_X8_tiltOf_0_38, s_X8_tiltOf_0_39, s_X8_tiltOf_0_40, s_X8_tiltOf_0_41, s_X8_tiltOf_0_45, s_X8_tiltOf_0_48, s_X8_tiltOf_0_51, s_X8_tiltOf_0_53, s_X8_tiltOf_0_54, s_X8_tiltOf_0_55, s_X8_tiltOf_0_56, s_X8_tiltOf_0_57, s_X8_tiltOf_0_60, s_X8_tiltOf_0_61, s_X8_tiltOf_0_62, s_X8_tiltOf_0_65, s_X8_tiltOf_0_67, s_X8_tiltOf_0_70, s_X8_tiltOf_0_71, s_X8_tiltOf_0_74, s_X8_tiltOf_0_77, s_X8_tiltOf_0_78, s_X8_tiltOf_0_80, s_X8_tiltOf_0_83, s_X8_tiltOf_0_84, s_X8_tiltOf_0_87, s_X8_tiltOf_0_88, s_X8_tiltOf_0_89, s_X8_tiltOf_0_90, s_X8_tiltOf_0_91, s_X8_tiltOf_0_92, s_X8_tiltOf_0_95, s_X8_tiltOf_0_97, s_X8_tiltOf_0_100, s_X8_tiltOf_0_101, s_X8_tiltOf_0_102, s_X8_tiltOf_0_103, s_X8_tiltOf_0_105, s_X8_tiltOf_0_108, s_X8_tiltOf_0_111, s_X8_tiltOf_0_114, s_X8_tiltOf_0_115, ↓i_lt_t, ↓i_lt_f, ↓i_le_t, ↓i_le_f, ↓i_eq_t, ↓i_eq_f, ↓i_m1a, ↓i_m1b, ↓i_m1c, ↓i_m1d, ↓i_m1e, ↓i_m1f, c_lt, c_le, c_eq, if_pos, if_neg, bnd_some, Option.toList, List.nil_append, List.cons_append, c_add, m1_lt, m1_eq1, m1_eq2, m1_le, ret_1, ret_0, if_true, if_false, eq_self_iff]
  | succ f ih =>
    intro i I A hi hag hag2
    obtain ⟨g20, g21, gd1, gd9, gk, gs0⟩ := hX.ag hag
    have gs : ∀ c, c < 12 → A 28 c = nI (s c) ∧ s c < 7 := fun c hc => by rw [hag2.2 c hc]; exact gs0 c hc
    have hon := onN_le (nI i) 12
    have hon2 := onN_le (nI (tlt s d k cc cw n c i)) 12
    have hle := tlt_le s d k cc cw n c i (by omega)
    by_cases hok : nI i &&& (mayF s 12 ^^^ (-1)) = nI 0
    · by_cases hfe : tlt s d k cc cw n c i = 4096 ∨ onN (nI i) 12 < onN (nI (tlt s d k cc cw n c i)) 12
      · have hTs : ∀ c, c < 12 → tb (nI i) c = nI (Tv i c) ∧ Tv i c < 2 ∧ (Tv i c = 1 → s c = 2 ∨ s c = 3) := fun c hc => ⟨(Tv_ok i c).1, (Tv_ok i c).2, okT_sign hok c hc⟩
        obtain ⟨g, c1, c2⟩ := change_ok sc I A Z s (Tv i) (nI i) gs hTs
        have hMH : MH (flp s (Tv i)) d k I (setA A 28 g) := ⟨g20, g21, gd1, gd9, gk, fun c hc => ⟨by rw [sa_s]; exact c2 c hc, (flp_lt s (Tv i) c (gs c hc).2 (hTs c hc).2.2).1⟩⟩
        have hMC : MC2 n cc cw I (setA A 28 g) := by
          have h := hC.ag hag
          refine ⟨h.1, h.2.1, fun j hj => ?_⟩
          rw [sa_n (by decide), hag2.1 29 (by decide)]
          exact h.2.2 j hj
        obtain ⟨I1, r1, r2⟩ := mAny_ok sc I (setA A 28 g) Z (flp s (Tv i)) d k hMH n cc cw hMC
        rw [seen_flp s (Tv i) d k (fun c hc => ⟨(hTs c hc).2.2, (hTs c hc).2.1⟩)] at r1
        obtain ⟨g2, c3, c4⟩ := change_ok sc I1 (setA A 28 g) Z (flp s (Tv i)) (Tv i) (nI i) (fun c hc => ⟨by rw [sa_s]; exact c2 c hc, (flp_lt s (Tv i) c (gs c hc).2 (hTs c hc).2.2).1⟩) (fun c hc => ⟨(hTs c hc).1, (hTs c hc).2.1, (flp_lt s (Tv i) c (gs c hc).2 (hTs c hc).2.2).2⟩)
        rw [sa_sa] at c3
        have hA3 : AgS (setA A 28 g2) A0 := ⟨fun p hp => by rw [sa_n hp]; exact hag2.1 p hp, fun j hj => by rw [sa_s, c4 j hj, flp_flp s (Tv i) j (hTs j hj).2.2, (gs0 j hj).1]⟩
        rcases tb_01 (seenF s d k (Tv i) cc cw n) c with hb | hb
        · have hb2 : (seenF s d k (Tv i) cc cw n >>> (nI c &&& 31)) &&& nI 1 = nI 0 := hb
          have e : tlt s d k cc cw n c (i + 1) = tlt s d k cc cw n c i := by
            rw [tlt, if_neg]; rintro ⟨-, -, q⟩; rw [hb] at q; exact absurd q (by decide)
          obtain ⟨I', A', q1, q2, q3⟩ := ih (i + 1) I1 (setA A 28 g2) (by omega) (r2.tr hag) hA3
          rw [e] at q1
          refine ⟨I', A', ?_, q2, q3⟩
          rw [s_X8_tiltOf_0_43]
          by_cases h4 : tlt s d k cc cw n c i = 4096
          · rw [show qI (tlt s d k cc cw n c i) = -1 from if_pos h4] at q1 ⊢
            simp (disch := omega) only [s_X8_tiltOf_0_0, s_X8_tiltOf_0_1, s_X8_tiltOf_0_2, s_X8_tiltOf_0_3, s_X8_tiltOf_0_4, s_X8_tiltOf_0_5, s_X8_tiltOf_0_7, s_X8_tiltOf_0_10, s_X8_tiltOf_0_11, s_X8_tiltOf_0_12, s_X8_tiltOf_0_15, s_X8_tiltOf_0_16, s_X8_tiltOf_0_17, s_X8_tiltOf_0_20, s_X8_tiltOf_0_23, s_X8_tiltOf_0_24, s_X8_tiltOf_0_25, s_X8_tiltOf_0_26, s_X8_tiltOf_0_29, s_X8_tiltOf_0_30, s_X8_tiltOf_0_31, s_X8_tiltOf_0_32, s_X8_tiltOf_0_35, s_X8_tiltOf_0_38, s_X8_tiltOf_0_39, s_X8_tiltOf_0_40, s_X8_tiltOf_0_41, s_X8_tiltOf_0_45, s_X8_tiltOf_0_48, s_X8_tiltOf_0_51, s_X8_tiltOf_0_53, s_X8_tiltOf_0_54, s_X8_tiltOf_0_55, s_X8_tiltOf_0_56, s_X8_tiltOf_0_57, s_X8_tiltOf_0_60, s_X8_tiltOf_0_61, s_X8_tiltOf_0_62, s_X8_tiltOf_0_65, s_X8_tiltOf_0_67, s_X8_tiltOf_0_70, s_X8_tiltOf_0_71, s_X8_tiltOf_0_74, s_X8_tiltOf_0_77, s_X8_tiltOf_0_78, s_X8_tiltOf_0_80, s_X8_tiltOf_0_83, s_X8_tiltOf_0_84, s_X8_tiltOf_0_87, s_X8_tiltOf_0_88, s_X8_tiltOf_0_89, s_X8_tiltOf_0_90, s_X8_tiltOf_0_91, s_X8_tiltOf_0_92, s_X8_tiltOf_0_95, s_X8_tiltOf_0_97, s_X8_tiltOf_0_100, s_X8_tiltOf_0_101, s_X8_tiltOf_0_102, s_X8_tiltOf_0_103, s_X8_tiltOf_0_105, s_X8_tiltOf_0_108, s_X8_tiltOf_0_111, s_X8_tiltOf_0_114, s_X8_tiltOf_0_115, ↓i_lt_t, ↓i_lt_f, ↓i_le_t, ↓i_le_f, ↓i_eq_t, ↓i_eq_f, ↓i_m1a, ↓i_m1b, ↓i_m1c, ↓i_m1d, ↓i_m1e, ↓i_m1f, c_lt, c_le, c_eq, if_pos, if_neg, bnd_some, Option.toList, List.nil_append, List.cons_append, c_add, m1_lt, m1_eq1, m1_eq2, m1_le, ret_1, ret_0, if_true, if_false, eq_self_iff, ↓if_pos hok, c1, r1, hb2, c3]
            exact q1
          · rw [show qI (tlt s d k cc cw n c i) = nI (tlt s d k cc cw n c i) from if_neg h4] at q1 ⊢
            simp (disch := omega) only [s_X8_tiltOf_0_0, s_X8_tiltOf_0_1, s_X8_tiltOf_0_2, s_X8_tiltOf_0_3, s_X8_tiltOf_0_4, s_X8_tiltOf_0_5, s_X8_tiltOf_0_7, s_X8_tiltOf_0_10, s_X8_tiltOf_0_11, s_X8_tiltOf_0_12, s_X8_tiltOf_0_15, s_X8_tiltOf_0_16, s_X8_tiltOf_0_17, s_X8_tiltOf_0_20, s_X8_tiltOf_0_23, s_X8_tiltOf_0_24, s_X8_tiltOf_0_25, s_X8_tiltOf_0_26, s_X8_tiltOf_0_29, s_X8_tiltOf_0_30, s_X8_tiltOf_0_31, s_X8_tiltOf_0_32, s_X8_tiltOf_0_35, s_X8_tiltOf_0_38, s_X8_tiltOf_0_39, s_X8_tiltOf_0_40, s_X8_tiltOf_0_41, s_X8_tiltOf_0_45, s_X8_tiltOf_0_48, s_X8_tiltOf_0_51, s_X8_tiltOf_0_53, s_X8_tiltOf_0_54, s_X8_tiltOf_0_55, s_X8_tiltOf_0_56, s_X8_tiltOf_0_57, s_X8_tiltOf_0_60, s_X8_tiltOf_0_61, s_X8_tiltOf_0_62, s_X8_tiltOf_0_65, s_X8_tiltOf_0_67, s_X8_tiltOf_0_70, s_X8_tiltOf_0_71, s_X8_tiltOf_0_74, s_X8_tiltOf_0_77, s_X8_tiltOf_0_78, s_X8_tiltOf_0_80, s_X8_tiltOf_0_83, s_X8_tiltOf_0_84, s_X8_tiltOf_0_87, s_X8_tiltOf_0_88, s_X8_tiltOf_0_89, s_X8_tiltOf_0_90, s_X8_tiltOf_0_91, s_X8_tiltOf_0_92, s_X8_tiltOf_0_95, s_X8_tiltOf_0_97, s_X8_tiltOf_0_100, s_X8_tiltOf_0_101, s_X8_tiltOf_0_102, s_X8_tiltOf_0_103, s_X8_tiltOf_0_105, s_X8_tiltOf_0_108, s_X8_tiltOf_0_111, s_X8_tiltOf_0_114, s_X8_tiltOf_0_115, ↓i_lt_t, ↓i_lt_f, ↓i_le_t, ↓i_le_f, ↓i_eq_t, ↓i_eq_f, ↓i_m1a, ↓i_m1b, ↓i_m1c, ↓i_m1d, ↓i_m1e, ↓i_m1f, c_lt, c_le, c_eq, if_pos, if_neg, bnd_some, Option.toList, List.nil_append, List.cons_append, c_add, m1_lt, m1_eq1, m1_eq2, m1_le, ret_1, ret_0, if_true, if_false, eq_self_iff, ↓if_pos hok, ones_ok, c1, r1, hb2, c3]
            exact q1
        · have hb2 : (seenF s d k (Tv i) cc cw n >>> (nI c &&& 31)) &&& nI 1 = nI 1 := hb
          have e : tlt s d k cc cw n c (i + 1) = i := by rw [tlt, if_pos ⟨hok, hfe, hb⟩]
          obtain ⟨I', A', q1, q2, q3⟩ := ih (i + 1) I1 (setA A 28 g2) (by omega) (r2.tr hag) hA3
          rw [e, show qI i = nI i from if_neg (by omega)] at q1
          refine ⟨I', A', ?_, q2, q3⟩
          rw [s_X8_tiltOf_0_43]
          by_cases h4 : tlt s d k cc cw n c i = 4096
          · rw [show qI (tlt s d k cc cw n c i) = -1 from if_pos h4]
            simp (disch := omega) only [s_X8_tiltOf_0_0, s_X8_tiltOf_0_1, s_X8_tiltOf_0_2, s_X8_tiltOf_0_3, s_X8_tiltOf_0_4, s_X8_tiltOf_0_5, s_X8_tiltOf_0_7, s_X8_tiltOf_0_10, s_X8_tiltOf_0_11, s_X8_tiltOf_0_12, s_X8_tiltOf_0_15, s_X8_tiltOf_0_16, s_X8_tiltOf_0_17, s_X8_tiltOf_0_20, s_X8_tiltOf_0_23, s_X8_tiltOf_0_24, s_X8_tiltOf_0_25, s_X8_tiltOf_0_26, s_X8_tiltOf_0_29, s_X8_tiltOf_0_30, s_X8_tiltOf_0_31, s_X8_tiltOf_0_32, s_X8_tiltOf_0_35, s_X8_tiltOf_0_38, s_X8_tiltOf_0_39, s_X8_tiltOf_0_40, s_X8_tiltOf_0_41, s_X8_tiltOf_0_45, s_X8_tiltOf_0_48, s_X8_tiltOf_0_51, s_X8_tiltOf_0_53, s_X8_tiltOf_0_54, s_X8_tiltOf_0_55, s_X8_tiltOf_0_56, s_X8_tiltOf_0_57, s_X8_tiltOf_0_60, s_X8_tiltOf_0_61, s_X8_tiltOf_0_62, s_X8_tiltOf_0_65, s_X8_tiltOf_0_67, s_X8_tiltOf_0_70, s_X8_tiltOf_0_71, s_X8_tiltOf_0_74, s_X8_tiltOf_0_77, s_X8_tiltOf_0_78, s_X8_tiltOf_0_80, s_X8_tiltOf_0_83, s_X8_tiltOf_0_84, s_X8_tiltOf_0_87, s_X8_tiltOf_0_88, s_X8_tiltOf_0_89, s_X8_tiltOf_0_90, s_X8_tiltOf_0_91, s_X8_tiltOf_0_92, s_X8_tiltOf_0_95, s_X8_tiltOf_0_97, s_X8_tiltOf_0_100, s_X8_tiltOf_0_101, s_X8_tiltOf_0_102, s_X8_tiltOf_0_103, s_X8_tiltOf_0_105, s_X8_tiltOf_0_108, s_X8_tiltOf_0_111, s_X8_tiltOf_0_114, s_X8_tiltOf_0_115, ↓i_lt_t, ↓i_lt_f, ↓i_le_t, ↓i_le_f, ↓i_eq_t, ↓i_eq_f, ↓i_m1a, ↓i_m1b, ↓i_m1c, ↓i_m1d, ↓i_m1e, ↓i_m1f, c_lt, c_le, c_eq, if_pos, if_neg, bnd_some, Option.toList, List.nil_append, List.cons_append, c_add, m1_lt, m1_eq1, m1_eq2, m1_le, ret_1, ret_0, if_true, if_false, eq_self_iff, ↓if_pos hok, c1, r1, hb2, c3]
            exact q1
          · rw [show qI (tlt s d k cc cw n c i) = nI (tlt s d k cc cw n c i) from if_neg h4]
            simp (disch := omega) only [s_X8_tiltOf_0_0, s_X8_tiltOf_0_1, s_X8_tiltOf_0_2, s_X8_tiltOf_0_3, s_X8_tiltOf_0_4, s_X8_tiltOf_0_5, s_X8_tiltOf_0_7, s_X8_tiltOf_0_10, s_X8_tiltOf_0_11, s_X8_tiltOf_0_12, s_X8_tiltOf_0_15, s_X8_tiltOf_0_16, s_X8_tiltOf_0_17, s_X8_tiltOf_0_20, s_X8_tiltOf_0_23, s_X8_tiltOf_0_24, s_X8_tiltOf_0_25, s_X8_tiltOf_0_26, s_X8_tiltOf_0_29, s_X8_tiltOf_0_30, s_X8_tiltOf_0_31, s_X8_tiltOf_0_32, s_X8_tiltOf_0_35, s_X8_tiltOf_0_38, s_X8_tiltOf_0_39, s_X8_tiltOf_0_40, s_X8_tiltOf_0_41, s_X8_tiltOf_0_45, s_X8_tiltOf_0_48, s_X8_tiltOf_0_51, s_X8_tiltOf_0_53, s_X8_tiltOf_0_54, s_X8_tiltOf_0_55, s_X8_tiltOf_0_56, s_X8_tiltOf_0_57, s_X8_tiltOf_0_60, s_X8_tiltOf_0_61, s_X8_tiltOf_0_62, s_X8_tiltOf_0_65, s_X8_tiltOf_0_67, s_X8_tiltOf_0_70, s_X8_tiltOf_0_71, s_X8_tiltOf_0_74, s_X8_tiltOf_0_77, s_X8_tiltOf_0_78, s_X8_tiltOf_0_80, s_X8_tiltOf_0_83, s_X8_tiltOf_0_84, s_X8_tiltOf_0_87, s_X8_tiltOf_0_88, s_X8_tiltOf_0_89, s_X8_tiltOf_0_90, s_X8_tiltOf_0_91, s_X8_tiltOf_0_92, s_X8_tiltOf_0_95, s_X8_tiltOf_0_97, s_X8_tiltOf_0_100, s_X8_tiltOf_0_101, s_X8_tiltOf_0_102, s_X8_tiltOf_0_103, s_X8_tiltOf_0_105, s_X8_tiltOf_0_108, s_X8_tiltOf_0_111, s_X8_tiltOf_0_114, s_X8_tiltOf_0_115, ↓i_lt_t, ↓i_lt_f, ↓i_le_t, ↓i_le_f, ↓i_eq_t, ↓i_eq_f, ↓i_m1a, ↓i_m1b, ↓i_m1c, ↓i_m1d, ↓i_m1e, ↓i_m1f, c_lt, c_le, c_eq, if_pos, if_neg, bnd_some, Option.toList, List.nil_append, List.cons_append, c_add, m1_lt, m1_eq1, m1_eq2, m1_le, ret_1, ret_0, if_true, if_false, eq_self_iff, ↓if_pos hok, ones_ok, c1, r1, hb2, c3]
            exact q1
      · have e : tlt s d k cc cw n c (i + 1) = tlt s d k cc cw n c i := by
          rw [tlt, if_neg]; rintro ⟨-, q, -⟩; exact hfe q
        have h4 : ¬ tlt s d k cc cw n c i = 4096 := fun q => hfe (Or.inl q)
        have h5 : onN (nI (tlt s d k cc cw n c i)) 12 ≤ onN (nI i) 12 := by
          rcases Nat.lt_or_ge (onN (nI i) 12) (onN (nI (tlt s d k cc cw n c i)) 12) with h | h
          · exact absurd (Or.inr h) hfe
          · exact h
        obtain ⟨I', A', q1, q2, q3⟩ := ih (i + 1) I A (by omega) hag hag2
        rw [e, show qI (tlt s d k cc cw n c i) = nI (tlt s d k cc cw n c i) from if_neg h4] at q1
        refine ⟨I', A', ?_, q2, q3⟩
        rw [s_X8_tiltOf_0_43, show qI (tlt s d k cc cw n c i) = nI (tlt s d k cc cw n c i) from if_neg h4]
        simp (disch := omega) only [s_X8_tiltOf_0_0, s_X8_tiltOf_0_1, s_X8_tiltOf_0_2, s_X8_tiltOf_0_3, s_X8_tiltOf_0_4, s_X8_tiltOf_0_5, s_X8_tiltOf_0_7, s_X8_tiltOf_0_10, s_X8_tiltOf_0_11, s_X8_tiltOf_0_12, s_X8_tiltOf_0_15, s_X8_tiltOf_0_16, s_X8_tiltOf_0_17, s_X8_tiltOf_0_20, s_X8_tiltOf_0_23, s_X8_tiltOf_0_24, s_X8_tiltOf_0_25, s_X8_tiltOf_0_26, s_X8_tiltOf_0_29, s_X8_tiltOf_0_30, s_X8_tiltOf_0_31, s_X8_tiltOf_0_32, s_X8_tiltOf_0_35, s_X8_tiltOf_0_38, s_X8_tiltOf_0_39, s_X8_tiltOf_0_40, s_X8_tiltOf_0_41, s_X8_tiltOf_0_45, s_X8_tiltOf_0_48, s_X8_tiltOf_0_51, s_X8_tiltOf_0_53, s_X8_tiltOf_0_54, s_X8_tiltOf_0_55, s_X8_tiltOf_0_56, s_X8_tiltOf_0_57, s_X8_tiltOf_0_60, s_X8_tiltOf_0_61, s_X8_tiltOf_0_62, s_X8_tiltOf_0_65, s_X8_tiltOf_0_67, s_X8_tiltOf_0_70, s_X8_tiltOf_0_71, s_X8_tiltOf_0_74, s_X8_tiltOf_0_77, s_X8_tiltOf_0_78, s_X8_tiltOf_0_80, s_X8_tiltOf_0_83, s_X8_tiltOf_0_84, s_X8_tiltOf_0_87, s_X8_tiltOf_0_88, s_X8_tiltOf_0_89, s_X8_tiltOf_0_90, s_X8_tiltOf_0_91, s_X8_tiltOf_0_92, s_X8_tiltOf_0_95, s_X8_tiltOf_0_97, s_X8_tiltOf_0_100, s_X8_tiltOf_0_101, s_X8_tiltOf_0_102, s_X8_tiltOf_0_103, s_X8_tiltOf_0_105, s_X8_tiltOf_0_108, s_X8_tiltOf_0_111, s_X8_tiltOf_0_114, s_X8_tiltOf_0_115, ↓i_lt_t, ↓i_lt_f, ↓i_le_t, ↓i_le_f, ↓i_eq_t, ↓i_eq_f, ↓i_m1a, ↓i_m1b, ↓i_m1c, ↓i_m1d, ↓i_m1e, ↓i_m1f, c_lt, c_le, c_eq, if_pos, if_neg, bnd_some, Option.toList, List.nil_append, List.cons_append, c_add, m1_lt, m1_eq1, m1_eq2, m1_le, ret_1, ret_0, if_true, if_false, eq_self_iff, ↓if_pos hok, ones_ok]
        exact q1
    · have e : tlt s d k cc cw n c (i + 1) = tlt s d k cc cw n c i := by
        rw [tlt, if_neg]; rintro ⟨q, -⟩; exact hok q
      obtain ⟨I', A', q1, q2, q3⟩ := ih (i + 1) I A (by omega) hag hag2
      rw [e] at q1
      refine ⟨I', A', ?_, q2, q3⟩
      rw [s_X8_tiltOf_0_43]
      simp (disch := omega) only [s_X8_tiltOf_0_0, s_X8_tiltOf_0_1, s_X8_tiltOf_0_2, s_X8_tiltOf_0_3, s_X8_tiltOf_0_4, s_X8_tiltOf_0_5, s_X8_tiltOf_0_7, s_X8_tiltOf_0_10, s_X8_tiltOf_0_11, s_X8_tiltOf_0_12, s_X8_tiltOf_0_15, s_X8_tiltOf_0_16, s_X8_tiltOf_0_17, s_X8_tiltOf_0_20, s_X8_tiltOf_0_23, s_X8_tiltOf_0_24, s_X8_tiltOf_0_25, s_X8_tiltOf_0_26, s_X8_tiltOf_0_29, s_X8_tiltOf_0_30, s_X8_tiltOf_0_31, s_X8_tiltOf_0_32, s_X8_tiltOf_0_35, s_X8_tiltOf_0_38, s_X8_tiltOf_0_39, s_X8_tiltOf_0_40, s_X8_tiltOf_0_41, s_X8_tiltOf_0_45, s_X8_tiltOf_0_48, s_X8_tiltOf_0_51, s_X8_tiltOf_0_53, s_X8_tiltOf_0_54, s_X8_tiltOf_0_55, s_X8_tiltOf_0_56, s_X8_tiltOf_0_57, s_X8_tiltOf_0_60, s_X8_tiltOf_0_61, s_X8_tiltOf_0_62, s_X8_tiltOf_0_65, s_X8_tiltOf_0_67, s_X8_tiltOf_0_70, s_X8_tiltOf_0_71, s_X8_tiltOf_0_74, s_X8_tiltOf_0_77, s_X8_tiltOf_0_78, s_X8_tiltOf_0_80, s_X8_tiltOf_0_83, s_X8_tiltOf_0_84, s_X8_tiltOf_0_87, s_X8_tiltOf_0_88, s_X8_tiltOf_0_89, s_X8_tiltOf_0_90, s_X8_tiltOf_0_91, s_X8_tiltOf_0_92, s_X8_tiltOf_0_95, s_X8_tiltOf_0_97, s_X8_tiltOf_0_100, s_X8_tiltOf_0_101, s_X8_tiltOf_0_102, s_X8_tiltOf_0_103, s_X8_tiltOf_0_105, s_X8_tiltOf_0_108, s_X8_tiltOf_0_111, s_X8_tiltOf_0_114, s_X8_tiltOf_0_115, ↓i_lt_t, ↓i_lt_f, ↓i_le_t, ↓i_le_f, ↓i_eq_t, ↓i_eq_f, ↓i_m1a, ↓i_m1b, ↓i_m1c, ↓i_m1d, ↓i_m1e, ↓i_m1f, c_lt, c_le, c_eq, if_pos, if_neg, bnd_some, Option.toList, List.nil_append, List.cons_append, c_add, m1_lt, m1_eq1, m1_eq2, m1_le, ret_1, ret_0, if_true, if_false, eq_self_iff, ↓if_neg hok]
      exact q1
theorem tiltOf_ok (sc : Nat × (Nat → Int32)) (I : Nat → Int32) (A : Nat → Nat → Int32) (Z : Int64) (s : Nat → Nat) (d k : Nat) (hX : MH s d k I A) (n : Nat) (cc cw : Nat → Nat) (hC : MC2 n cc cw I A) (c : Nat) (hc : c < 12) :
    ∃ (I' : Nat → Int32) (A' : Nat → Nat → Int32), rs sc 123 0 [some (.ref 26), some (.int (nI c)), none, none, none] [] [] (hp I A Z) = some (some (.int (qI (tlt s d k cc cw n c 4096))), hp I' A' Z) ∧ AgM I' I ∧ AgS A' A := by
  obtain ⟨g20, g21, gd1, gd9, gk, gs⟩ := id hX
  have lp : ∀ (f j : Nat) (l4 : Option Value), j + f = 12 → rs sc 123 4 [some (.ref 26), some (.int (nI c)), some (.int (mayF s j)), some (.int (nI j)), l4] [] [] (hp I A Z) = rs sc 123 43 [some (.ref 26), some (.int (nI c)), some (.int (mayF s 12)), some (.int (-1)), some (.int (nI 0))] [] [] (hp I A Z) := by
    intro f
    induction f with
    | zero =>
      intro j l4 hj
      have e : j = 12 := by omega
      subst e
      rw [s_X8_tiltOf_0_4]
      simp (disch := omega) only [s_X8_tiltOf_0_0, s_X8_tiltOf_0_1, s_X8_tiltOf_0_2, s_X8_tiltOf_0_3, s_X8_tiltOf_0_5, s_X8_tiltOf_0_7, s_X8_tiltOf_0_10, s_X8_tiltOf_0_11, s_X8_tiltOf_0_12, s_X8_tiltOf_0_15, s_X8_tiltOf_0_16, s_X8_tiltOf_0_17, s_X8_tiltOf_0_20, s_X8_tiltOf_0_23, s_X8_tiltOf_0_24, s_X8_tiltOf_0_25, s_X8_tiltOf_0_26, s_X8_tiltOf_0_29, s_X8_tiltOf_0_30, s_X8_tiltOf_0_31, s_X8_tiltOf_0_32, s_X8_tiltOf_0_35, s_X8_tiltOf_0_38, s_X8_tiltOf_0_39, s_X8_tiltOf_0_40, s_X8_tiltOf_0_41, s_X8_tiltOf_0_45, s_X8_tiltOf_0_48, s_X8_tiltOf_0_51, s_X8_tiltOf_0_53, s_X8_tiltOf_0_54, s_X8_tiltOf_0_55, s_X8_tiltOf_0_56, s_X8_tiltOf_0_57, s_X8_tiltOf_0_60, s_X8_tiltOf_0_61, s_X8_tiltOf_0_62, s_X8_tiltOf_0_65, s_X8_tiltOf_0_67, s_X8_tiltOf_0_70, s_X8_tiltOf_0_71, s_X8_tiltOf_0_74, s_X8_tiltOf_0_77, s_X8_tiltOf_0_78, s_X8_tiltOf_0_80, s_X8_tiltOf_0_83, s_X8_tiltOf_0_84, s_X8_tiltOf_0_87, s_X8_tiltOf_0_88, s_X8_tiltOf_0_89, s_X8_tiltOf_0_90, s_X8_tiltOf_0_91, s_X8_tiltOf_0_92, s_X8_tiltOf_0_95, s_X8_tiltOf_0_97, s_X8_tiltOf_0_100, s_X8_tiltOf_0_101, s_X8_tiltOf_0_102, s_X8_tiltOf_0_103, s_X8_tiltOf_0_105, s_X8_tiltOf_0_108, s_X8_tiltOf_0_111, s_X8_tiltOf_0_114, s_X8_tiltOf_0_115, ↓i_lt_t, ↓i_lt_f, ↓i_le_t, ↓i_le_f, ↓i_eq_t, ↓i_eq_f, ↓i_m1a, ↓i_m1b, ↓i_m1c, ↓i_m1d, ↓i_m1e, ↓i_m1f, c_lt, c_le, c_eq, if_pos, if_neg, bnd_some, Option.toList, List.nil_append, List.cons_append, c_add, m1_lt, m1_eq1, m1_eq2, m1_le, ret_1, ret_0, if_true, if_false, eq_self_iff]
    | succ f ih =>
      intro j l4 hj
      obtain ⟨g1, g2⟩ := gs j (by omega)
      have q := ih (j + 1) l4 (by omega)
      rw [s_X8_tiltOf_0_4]
      by_cases h : s j = 2 ∨ s j = 3
      · rw [show mayF s (j + 1) = mayF s j ||| (nI 1 <<< (nI j &&& 31)) by rw [mayF, if_pos h]] at q
        simp (disch := omega) only [s_X8_tiltOf_0_0, s_X8_tiltOf_0_1, s_X8_tiltOf_0_2, s_X8_tiltOf_0_3, s_X8_tiltOf_0_5, s_X8_tiltOf_0_7, s_X8_tiltOf_0_10, s_X8_tiltOf_0_11, s_X8_tiltOf_0_12, s_X8_tiltOf_0_15, s_X8_tiltOf_0_16, s_X8_tiltOf_0_17, s_X8_tiltOf_0_20, s_X8_tiltOf_0_23, s_X8_tiltOf_0_24, s_X8_tiltOf_0_25, s_X8_tiltOf_0_26, s_X8_tiltOf_0_29, s_X8_tiltOf_0_30, s_X8_tiltOf_0_31, s_X8_tiltOf_0_32, s_X8_tiltOf_0_35, s_X8_tiltOf_0_38, s_X8_tiltOf_0_39, s_X8_tiltOf_0_40, s_X8_tiltOf_0_41, s_X8_tiltOf_0_45, s_X8_tiltOf_0_48, s_X8_tiltOf_0_51, s_X8_tiltOf_0_53, s_X8_tiltOf_0_54, s_X8_tiltOf_0_55, s_X8_tiltOf_0_56, s_X8_tiltOf_0_57, s_X8_tiltOf_0_60, s_X8_tiltOf_0_61, s_X8_tiltOf_0_62, s_X8_tiltOf_0_65, s_X8_tiltOf_0_67, s_X8_tiltOf_0_70, s_X8_tiltOf_0_71, s_X8_tiltOf_0_74, s_X8_tiltOf_0_77, s_X8_tiltOf_0_78, s_X8_tiltOf_0_80, s_X8_tiltOf_0_83, s_X8_tiltOf_0_84, s_X8_tiltOf_0_87, s_X8_tiltOf_0_88, s_X8_tiltOf_0_89, s_X8_tiltOf_0_90, s_X8_tiltOf_0_91, s_X8_tiltOf_0_92, s_X8_tiltOf_0_95, s_X8_tiltOf_0_97, s_X8_tiltOf_0_100, s_X8_tiltOf_0_101, s_X8_tiltOf_0_102, s_X8_tiltOf_0_103, s_X8_tiltOf_0_105, s_X8_tiltOf_0_108, s_X8_tiltOf_0_111, s_X8_tiltOf_0_114, s_X8_tiltOf_0_115, ↓i_lt_t, ↓i_lt_f, ↓i_le_t, ↓i_le_f, ↓i_eq_t, ↓i_eq_f, ↓i_m1a, ↓i_m1b, ↓i_m1c, ↓i_m1d, ↓i_m1e, ↓i_m1f, c_lt, c_le, c_eq, if_pos, if_neg, bnd_some, Option.toList, List.nil_append, List.cons_append, c_add, m1_lt, m1_eq1, m1_eq2, m1_le, ret_1, ret_0, if_true, if_false, eq_self_iff, g1, mMay, ↓if_pos h]
        exact q
      · rw [show mayF s (j + 1) = mayF s j ||| nI 0 by rw [mayF, if_neg h]] at q
        simp (disch := omega) only [s_X8_tiltOf_0_0, s_X8_tiltOf_0_1, s_X8_tiltOf_0_2, s_X8_tiltOf_0_3, s_X8_tiltOf_0_5, s_X8_tiltOf_0_7, s_X8_tiltOf_0_10, s_X8_tiltOf_0_11, s_X8_tiltOf_0_12, s_X8_tiltOf_0_15, s_X8_tiltOf_0_16, s_X8_tiltOf_0_17, s_X8_tiltOf_0_20, s_X8_tiltOf_0_23, s_X8_tiltOf_0_24, s_X8_tiltOf_0_25, s_X8_tiltOf_0_26, s_X8_tiltOf_0_29, s_X8_tiltOf_0_30, s_X8_tiltOf_0_31, s_X8_tiltOf_0_32, s_X8_tiltOf_0_35, s_X8_tiltOf_0_38, s_X8_tiltOf_0_39, s_X8_tiltOf_0_40, s_X8_tiltOf_0_41, s_X8_tiltOf_0_45, s_X8_tiltOf_0_48, s_X8_tiltOf_0_51, s_X8_tiltOf_0_53, s_X8_tiltOf_0_54, s_X8_tiltOf_0_55, s_X8_tiltOf_0_56, s_X8_tiltOf_0_57, s_X8_tiltOf_0_60, s_X8_tiltOf_0_61, s_X8_tiltOf_0_62, s_X8_tiltOf_0_65, s_X8_tiltOf_0_67, s_X8_tiltOf_0_70, s_X8_tiltOf_0_71, s_X8_tiltOf_0_74, s_X8_tiltOf_0_77, s_X8_tiltOf_0_78, s_X8_tiltOf_0_80, s_X8_tiltOf_0_83, s_X8_tiltOf_0_84, s_X8_tiltOf_0_87, s_X8_tiltOf_0_88, s_X8_tiltOf_0_89, s_X8_tiltOf_0_90, s_X8_tiltOf_0_91, s_X8_tiltOf_0_92, s_X8_tiltOf_0_95, s_X8_tiltOf_0_97, s_X8_tiltOf_0_100, s_X8_tiltOf_0_101, s_X8_tiltOf_0_102, s_X8_tiltOf_0_103, s_X8_tiltOf_0_105, s_X8_tiltOf_0_108, s_X8_tiltOf_0_111, s_X8_tiltOf_0_114, s_X8_tiltOf_0_115, ↓i_lt_t, ↓i_lt_f, ↓i_le_t, ↓i_le_f, ↓i_eq_t, ↓i_eq_f, ↓i_m1a, ↓i_m1b, ↓i_m1c, ↓i_m1d, ↓i_m1e, ↓i_m1f, c_lt, c_le, c_eq, if_pos, if_neg, bnd_some, Option.toList, List.nil_append, List.cons_append, c_add, m1_lt, m1_eq1, m1_eq2, m1_le, ret_1, ret_0, if_true, if_false, eq_self_iff, g1, mMay, ↓if_neg h]
        exact q
  have q := lp 12 0 none (by omega)
  obtain ⟨I', A', q1, q2, q3⟩ := mTilt_loop sc Z s d k I A hX n cc cw hC c hc 4096 0 I A (by omega) (AgM.rf I) (AgS.rf A)
  refine ⟨I', A', ?_, q2, q3⟩
  simp (disch := omega) only [s_X8_tiltOf_0_0, s_X8_tiltOf_0_1, s_X8_tiltOf_0_2, s_X8_tiltOf_0_3, s_X8_tiltOf_0_5, s_X8_tiltOf_0_7, s_X8_tiltOf_0_10, s_X8_tiltOf_0_11, s_X8_tiltOf_0_12, s_X8_tiltOf_0_15, s_X8_tiltOf_0_16, s_X8_tiltOf_0_17, s_X8_tiltOf_0_20, s_X8_tiltOf_0_23, s_X8_tiltOf_0_24, s_X8_tiltOf_0_25, s_X8_tiltOf_0_26, s_X8_tiltOf_0_29, s_X8_tiltOf_0_30, s_X8_tiltOf_0_31, s_X8_tiltOf_0_32, s_X8_tiltOf_0_35, s_X8_tiltOf_0_38, s_X8_tiltOf_0_39, s_X8_tiltOf_0_40, s_X8_tiltOf_0_41, s_X8_tiltOf_0_45, s_X8_tiltOf_0_48, s_X8_tiltOf_0_51, s_X8_tiltOf_0_53, s_X8_tiltOf_0_54, s_X8_tiltOf_0_55, s_X8_tiltOf_0_56, s_X8_tiltOf_0_57, s_X8_tiltOf_0_60, s_X8_tiltOf_0_61, s_X8_tiltOf_0_62, s_X8_tiltOf_0_65, s_X8_tiltOf_0_67, s_X8_tiltOf_0_70, s_X8_tiltOf_0_71, s_X8_tiltOf_0_74, s_X8_tiltOf_0_77, s_X8_tiltOf_0_78, s_X8_tiltOf_0_80, s_X8_tiltOf_0_83, s_X8_tiltOf_0_84, s_X8_tiltOf_0_87, s_X8_tiltOf_0_88, s_X8_tiltOf_0_89, s_X8_tiltOf_0_90, s_X8_tiltOf_0_91, s_X8_tiltOf_0_92, s_X8_tiltOf_0_95, s_X8_tiltOf_0_97, s_X8_tiltOf_0_100, s_X8_tiltOf_0_101, s_X8_tiltOf_0_102, s_X8_tiltOf_0_103, s_X8_tiltOf_0_105, s_X8_tiltOf_0_108, s_X8_tiltOf_0_111, s_X8_tiltOf_0_114, s_X8_tiltOf_0_115, ↓i_lt_t, ↓i_lt_f, ↓i_le_t, ↓i_le_f, ↓i_eq_t, ↓i_eq_f, ↓i_m1a, ↓i_m1b, ↓i_m1c, ↓i_m1d, ↓i_m1e, ↓i_m1f, c_lt, c_le, c_eq, if_pos, if_neg, bnd_some, Option.toList, List.nil_append, List.cons_append, c_add, m1_lt, m1_eq1, m1_eq2, m1_le, ret_1, ret_0, if_true, if_false, eq_self_iff]
  exact q.trans q1
