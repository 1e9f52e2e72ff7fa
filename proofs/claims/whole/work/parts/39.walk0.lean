/-! WALKS: what both ways of reckoning them come to, in numbers alone -/
def wk (s e : Nat → Nat) (t : Nat) : Nat → Nat → Nat → Prop
  | 0, c, x => c = t ∧ x = 0
  | n + 1, c, x => ∃ k y, k < 4 ∧ fb s c k < 12 ∧ x = y + e (fb s c k) ∧ wk s e t n (fb s c k) y
def wf (s e : Nat → Nat) (t n c x g : Nat) : Prop := ∃ k y, g = k + 1 ∧ k < 4 ∧ fb s c k < 12 ∧ x = y + e (fb s c k) ∧ wk s e t n (fb s c k) y
theorem wf_wk {s e : Nat → Nat} {t n c x g : Nat} (h : wf s e t n c x g) : wk s e t (n + 1) c x := by
  obtain ⟨k, y, h1, h2, h3, h4, h5⟩ := h
  exact ⟨k, y, h2, h3, h4, h5⟩
theorem wk_wf {s e : Nat → Nat} {t n c x : Nat} (h : wk s e t (n + 1) c x) : ∃ g, wf s e t n c x g := by
  obtain ⟨k, y, h2, h3, h4, h5⟩ := h
  exact ⟨k + 1, k, y, rfl, h2, h3, h4, h5⟩
theorem wk_snoc (s e : Nat → Nat) (p k q : Nat) (hk : k < 4) (hq : fb s p k = q) (h12 : q < 12) : ∀ (n c x : Nat), wk s e p n c x → wk s e q (n + 1) c (x + e q) := by
  intro n
  induction n with
  | zero =>
    intro c x h
    obtain ⟨h1, h2⟩ := h
    subst h2
    rw [h1]
    exact ⟨k, 0, hk, by rw [hq]; exact h12, by rw [hq], by rw [hq]; exact ⟨rfl, rfl⟩⟩
  | succ n ih =>
    intro c x h
    obtain ⟨k1, y, h1, h2, h3, h4⟩ := h
    exact ⟨k1, y + e q, h1, h2, by omega, ih _ _ h4⟩
theorem wf_snoc (s e : Nat → Nat) (p k q : Nat) (hk : k < 4) (hq : fb s p k = q) (h12 : q < 12) {n c x g : Nat} (h : wf s e p n c x g) : wf s e q (n + 1) c (x + e q) g := by
  obtain ⟨k1, y, h0, h1, h2, h3, h4⟩ := h
  exact ⟨k1, y + e q, h0, h1, h2, by omega, wk_snoc s e p k q hk hq h12 _ _ _ h4⟩
theorem wk_le {s e : Nat → Nat} (he : ∀ c, e c ≤ 1) {t : Nat} : ∀ (n c x : Nat), wk s e t n c x → x ≤ n := by
  intro n
  induction n with
  | zero => intro c x h; obtain ⟨-, h2⟩ := h; omega
  | succ n ih =>
    intro c x h
    obtain ⟨k1, y, h1, h2, h3, h4⟩ := h
    have := ih _ _ h4
    have := he (fb s c k1)
    omega
/-- the reference's: from one cell on, till nothing is better -/
def gof (a : Nat) (G : Nat → Nat) (p k : Nat) : Nat := if p = a then k + 1 else G p
def bet (s e : Nat → Nat) (a : Nat) (F G : Nat → Nat) (p k : Nat) : Prop := F p < 100000 ∧ fb s p k < 12 ∧ (F p + 1 + 1000 * e (fb s p k) < F (fb s p k) ∨ (F p + 1 + 1000 * e (fb s p k) = F (fb s p k) ∧ gof a G p k < G (fb s p k)))
def FInv (s e : Nat → Nat) (a : Nat) (F G : Nat → Nat) : Prop := F a = 0 ∧ G a = 0 ∧ (∀ c, c < 12 → F c ≤ 100000 ∧ G c ≤ 4) ∧ ∀ c, c < 12 → c ≠ a → F c < 100000 → ∃ p k, p < 12 ∧ k < 4 ∧ fb s p k = c ∧ (F p + 1 + 1000 * e c < F c ∨ (F p + 1 + 1000 * e c = F c ∧ gof a G p k ≤ G c))
def FFix (s e : Nat → Nat) (a : Nat) (F G : Nat → Nat) : Prop := ∀ p k, p < 12 → k < 4 → ¬ bet s e a F G p k
theorem FInv.start (s e : Nat → Nat) (a : Nat) : FInv s e a (fun c => if c = a then 0 else 100000) (fun _ => 0) := by
  refine ⟨if_pos rfl, rfl, fun c hc => ⟨?_, Nat.zero_le 4⟩, fun c hc hca h => ?_⟩
  · dsimp only
    split <;> omega
  · dsimp only at h
    rw [if_neg hca] at h
    omega
theorem FInv.pos {s e : Nat → Nat} {a : Nat} {F G : Nat → Nat} (h : FInv s e a F G) {c : Nat} (hc : c < 12) (hca : c ≠ a) : 0 < F c := by
  obtain ⟨h1, h2, h3, h4⟩ := h
  by_cases hf : F c < 100000
  · obtain ⟨p, k, -, -, -, q⟩ := h4 c hc hca hf
    omega
  · omega
theorem FInv.step {s e : Nat → Nat} {a : Nat} {F G : Nat → Nat} (h : FInv s e a F G) {p k q : Nat} (hp : p < 12) (hk : k < 4) (hq : fb s p k = q) (hb : bet s e a F G p k) : FInv s e a (un F q (F p + 1 + 1000 * e q)) (un G q (gof a G p k)) := by
  obtain ⟨b1, b2, b3⟩ := hb
  rw [hq] at b2 b3
  obtain ⟨h1, h2, h3, h4⟩ := h
  have hqa : q ≠ a := fun e => by subst e; omega
  have hpq : p ≠ q := fun e => by subst e; omega
  have hg4 : gof a G p k ≤ 4 := by
    unfold gof
    have := (h3 p hp).2
    split <;> omega
  have gg : gof a (un G q (gof a G p k)) p k = gof a G p k := by
    rw [gof, un_n hpq]; rfl
  refine ⟨by rw [un_n (Ne.symm hqa)]; exact h1, by rw [un_n (Ne.symm hqa)]; exact h2, fun c hc => ?_, fun c hc hca hf => ?_⟩
  · by_cases e : c = q
    · subst e
      rw [un_s, un_s]
      have := (h3 c hc).1
      omega
    · rw [un_n e, un_n e]; exact h3 c hc
  · by_cases e1 : c = q
    · subst e1
      refine ⟨p, k, hp, hk, hq, ?_⟩
      rw [un_s, un_s, un_n hpq, gg]
      exact Or.inr ⟨rfl, Nat.le_refl _⟩
    · rw [un_n e1] at hf ⊢
      rw [un_n e1]
      obtain ⟨p2, k2, q1, q2, q3, q4⟩ := h4 c hc hca hf
      refine ⟨p2, k2, q1, q2, q3, ?_⟩
      by_cases e2 : p2 = q
      · subst e2
        have g1 : gof a G p2 k2 = G p2 := if_neg hqa
        have g2 : gof a (un G p2 (gof a G p k)) p2 k2 = gof a G p k := by
          rw [gof, if_neg hqa, un_s]
        rw [un_s, g2]
        rw [g1] at q4
        omega
      · have g2 : gof a (un G q (gof a G p k)) p2 k2 = gof a G p2 k2 := by
          rw [gof, un_n e2]; rfl
        rw [un_n e2, g2]
        exact q4
theorem tight {s e : Nat → Nat} {a : Nat} {F G : Nat → Nat} (h : FInv s e a F G) (hx : FFix s e a F G) {c : Nat} (hc : c < 12) (hca : c ≠ a) (hf : F c < 100000) : ∃ p k, p < 12 ∧ k < 4 ∧ fb s p k = c ∧ F c = F p + 1 + 1000 * e c ∧ G c = gof a G p k := by
  obtain ⟨p, k, q1, q2, q3, q4⟩ := h.2.2.2 c hc hca hf
  have hb := hx p k q1 q2
  unfold bet at hb
  rw [q3] at hb
  have hb2 : ¬ (F p + 1 + 1000 * e c < F c ∨ (F p + 1 + 1000 * e c = F c ∧ gof a G p k < G c)) := fun w => hb ⟨by omega, hc, w⟩
  exact ⟨p, k, q1, q2, q3, by omega, by omega⟩
def cnt (F : Nat → Nat) (v : Nat) : Nat → Nat
  | 0 => 0
  | j + 1 => cnt F v j + if F j < v then 1 else 0
theorem cnt_le (F : Nat → Nat) (v : Nat) : ∀ j, cnt F v j ≤ j
  | 0 => Nat.le_refl _
  | j + 1 => by
    have := cnt_le F v j
    unfold cnt
    split <;> omega
theorem cnt_mono (F : Nat → Nat) {v w : Nat} (h : v ≤ w) : ∀ j, cnt F v j ≤ cnt F w j
  | 0 => Nat.le_refl _
  | j + 1 => by
    have := cnt_mono F h j
    unfold cnt
    split <;> split <;> omega
theorem cnt_lt (F : Nat → Nat) {v w : Nat} (h : v ≤ w) (p : Nat) (h1 : F p < w) (h2 : ¬ F p < v) : ∀ j, p < j → cnt F v j < cnt F w j
  | 0, hj => absurd hj (Nat.not_lt_zero _)
  | j + 1, hj => by
    unfold cnt
    by_cases e : p = j
    · subst e
      rw [if_pos h1, if_neg h2]
      have := cnt_mono F h p
      omega
    · have := cnt_lt F h p h1 h2 j (by omega)
      split <;> split <;> omega
theorem rnk {s e : Nat → Nat} (he : ∀ c, e c ≤ 1) {a : Nat} (ha : a < 12) {F G : Nat → Nat} (h : FInv s e a F G) (hx : FFix s e a F G) : ∀ (m c : Nat), F c < m → c < 12 → c ≠ a → F c < 100000 → ∃ n x, wf s e c n a x (G c) ∧ F c = n + 1 + 1000 * x ∧ n + 1 ≤ cnt F (F c) 12 ∧ x ≤ n + 1 := by
  intro m
  induction m with
  | zero => intro c hm; omega
  | succ m ih =>
    intro c hm hc hca hf
    obtain ⟨p, k, q1, q2, q3, q4, q5⟩ := tight h hx hc hca hf
    by_cases hpa : p = a
    · subst hpa
      have h0 := h.1
      have e5 : G c = k + 1 := by rw [q5]; exact if_pos rfl
      refine ⟨0, e c, ⟨k, 0, e5, q2, by rw [q3]; exact hc, by rw [q3]; omega, q3, rfl⟩, by omega, ?_, ?_⟩
      · have := cnt_lt F (v := 0) (w := F c) (by omega) p (by omega) (by omega) 12 ha
        omega
      · have := he c; omega
    · obtain ⟨n, x, w1, w2, w3, w4⟩ := ih p (by omega) q1 hpa (by omega)
      have e5 : G c = G p := by rw [q5]; exact if_neg hpa
      refine ⟨n + 1, x + e c, ?_, by omega, ?_, ?_⟩
      · rw [e5]
        exact wf_snoc s e p k c q2 q3 hc w1
      · have := cnt_lt F (v := F p) (w := F c) (by omega) p (by omega) (by omega) 12 q1
        omega
      · have := he c; omega
theorem fr1 {s e : Nat → Nat} (he : ∀ c, e c ≤ 1) {a : Nat} (ha : a < 12) {F G : Nat → Nat} (h : FInv s e a F G) (hx : FFix s e a F G) {t : Nat} (ht : t < 12) (hta : t ≠ a) (hf : F t < 100000) : ∃ n x, wf s e t n a x (G t) ∧ F t = n + 1 + 1000 * x ∧ n + 1 ≤ 11 ∧ x ≤ 11 := by
  obtain ⟨n, x, w1, w2, w3, w4⟩ := rnk he ha h hx (F t + 1) t (by omega) ht hta hf
  have h1 := cnt_lt F (v := F t) (w := F t + 1) (by omega) t (by omega) (by omega) 12 ht
  have h2 := cnt_le F (F t + 1) 12
  exact ⟨n, x, w1, w2, by omega, by omega⟩
theorem fbd {s e : Nat → Nat} (he : ∀ c, e c ≤ 1) {a : Nat} (ha : a < 12) {F G : Nat → Nat} (h : FInv s e a F G) (hx : FFix s e a F G) {t : Nat} (ht : t < 12) (hf : F t < 100000) : F t ≤ 11011 := by
  by_cases hta : t = a
  · subst hta; have := h.1; omega
  · obtain ⟨n, x, w1, w2, w3, w4⟩ := fr1 he ha h hx ht hta hf
    omega
def Hx (a : Nat) (F G : Nat → Nat) (c V g : Nat) : Prop := F c < 100000 ∧ (F c < V ∨ (F c = V ∧ c ≠ a ∧ G c ≤ g))
theorem hx_walk {s e : Nat → Nat} (he : ∀ c, e c ≤ 1) {a : Nat} (ha : a < 12) {F G : Nat → Nat} (h : FInv s e a F G) (hx : FFix s e a F G) {t : Nat} : ∀ (n c x V g : Nat), c < 12 → Hx a F G c V g → wk s e t n c x → Hx a F G t (V + n + 1000 * x) g := by
  intro n
  induction n with
  | zero =>
    intro c x V g hc hH hw
    obtain ⟨h1, h2⟩ := hw
    subst h1; subst h2
    exact hH
  | succ n ih =>
    intro c x V g hc hH hw
    obtain ⟨k, y, h1, h2, h3, h4⟩ := hw
    have hb := hx c k hc h1
    obtain ⟨g1, g2⟩ := hH
    have hbd := fbd he ha h hx hc g1
    generalize hq : fb s c k = q at h2 h3 h4
    unfold bet at hb
    rw [hq] at hb
    have hb2 : ¬ (F c + 1 + 1000 * e q < F q ∨ (F c + 1 + 1000 * e q = F q ∧ gof a G c k < G q)) := fun w => hb ⟨g1, h2, w⟩
    have heq := he q
    have hH2 : Hx a F G q (V + 1 + 1000 * e q) g := by
      refine ⟨by omega, ?_⟩
      rcases g2 with g2 | ⟨g2, g3, g4⟩
      · left; omega
      · have e1 : gof a G c k = G c := if_neg g3
        rw [e1] at hb2
        by_cases hlt : F q < F c + 1 + 1000 * e q
        · left; omega
        · right
          refine ⟨by omega, ?_, by omega⟩
          intro e2
          have h0 := h.1
          rw [← e2] at h0
          omega
    have r := ih q y (V + 1 + 1000 * e q) g h2 hH2 h4
    have e1 : V + 1 + 1000 * e q + n + 1000 * y = V + (n + 1) + 1000 * x := by omega
    rw [e1] at r
    exact r
theorem fr2 {s e : Nat → Nat} (he : ∀ c, e c ≤ 1) {a : Nat} (ha : a < 12) {F G : Nat → Nat} (h : FInv s e a F G) (hx : FFix s e a F G) {t n x g : Nat} (hw : wf s e t n a x g) : Hx a F G t (n + 1 + 1000 * x) g := by
  obtain ⟨k, y, h0, h1, h2, h3, h4⟩ := hw
  have hb := hx a k ha h1
  generalize hq : fb s a k = q at h2 h3 h4
  unfold bet at hb
  rw [hq] at hb
  have hf0 := h.1
  have hb2 : ¬ (F a + 1 + 1000 * e q < F q ∨ (F a + 1 + 1000 * e q = F q ∧ gof a G a k < G q)) := fun w => hb ⟨by omega, h2, w⟩
  have e1 : gof a G a k = k + 1 := if_pos rfl
  rw [e1] at hb2
  have heq := he q
  have hH : Hx a F G q (1 + 1000 * e q) g := by
    refine ⟨by omega, ?_⟩
    by_cases hlt : F q < 1 + 1000 * e q
    · exact Or.inl hlt
    · right
      refine ⟨by omega, ?_, by omega⟩
      intro e2
      rw [← e2] at hf0
      omega
  have r := hx_walk he ha h hx n q y (1 + 1000 * e q) g h2 hH h4
  have e3 : 1 + 1000 * e q + n + 1000 * y = n + 1 + 1000 * x := by omega
  rw [e3] at r
  exact r
/-- the class's: to one cell, round by round -/
def pr (s e P : Nat → Nat) (c k : Nat) : Nat := P (fb s c k) + 1 + 100 * e (fb s c k)
def CH (s e P : Nat → Nat) (c w L g : Nat) : Prop := L ≤ 1000000 ∧ (L < 1000000 → ∃ k, k < w ∧ fb s c k < 12 ∧ L = pr s e P c k ∧ g = k + 1) ∧ ∀ k, k < w → fb s c k < 12 → pr s e P c k < 1000000 → L < pr s e P c k ∨ (L = pr s e P c k ∧ g ≤ k + 1)
theorem CH.zero (s e P : Nat → Nat) (c g : Nat) : CH s e P c 0 1000000 g := ⟨Nat.le_refl _, fun h => absurd h (by omega), fun k hk => absurd hk (by omega)⟩
theorem CH.skip {s e P : Nat → Nat} {c w L g : Nat} (h : CH s e P c w L g) (hs : fb s c w < 12 → L ≤ pr s e P c w) : CH s e P c (w + 1) L g := by
  obtain ⟨h1, h2, h3⟩ := h
  refine ⟨h1, fun hl => ?_, fun k hk h12 hp => ?_⟩
  · obtain ⟨k, a, b⟩ := h2 hl
    exact ⟨k, by omega, b⟩
  · by_cases e1 : k = w
    · subst e1
      have := hs h12
      by_cases e2 : L < pr s e P c k
      · exact Or.inl e2
      · right
        obtain ⟨k2, a, b, c2, d⟩ := h2 (by omega)
        exact ⟨by omega, by omega⟩
    · exact h3 k (by omega) h12 hp
theorem CH.take {s e P : Nat → Nat} {c w L g : Nat} (h : CH s e P c w L g) (h12 : fb s c w < 12) (hs : pr s e P c w < L) : CH s e P c (w + 1) (pr s e P c w) (w + 1) := by
  obtain ⟨h1, h2, h3⟩ := h
  refine ⟨by omega, fun hl => ⟨w, by omega, h12, rfl, rfl⟩, fun k hk hk12 hp => ?_⟩
  by_cases e1 : k = w
  · subst e1; exact Or.inr ⟨rfl, Nat.le_refl _⟩
  · have := h3 k (by omega) hk12 hp
    left; omega
def PS (s e : Nat → Nat) (t r c v g : Nat) : Prop := v ≤ 1000000 ∧ (v < 1000000 → ∃ n x, wf s e t n c x g ∧ v = n + 1 + 100 * x) ∧ ∀ n x g', n + 1 ≤ r → wf s e t n c x g' → v < n + 1 + 100 * x ∨ (v = n + 1 + 100 * x ∧ g ≤ g')
theorem PS.start (s e : Nat → Nat) (t c g : Nat) : PS s e t 0 c 1000000 g := ⟨Nat.le_refl _, fun h => absurd h (by omega), fun n x g' h => absurd h (by omega)⟩
theorem PS.mono {s e : Nat → Nat} {t r r' c v g : Nat} (h : PS s e t r c v g) (hr : r' ≤ r) : PS s e t r' c v g := ⟨h.1, h.2.1, fun n x g' q => h.2.2 n x g' (by omega)⟩
theorem PS.choose {s e P G : Nat → Nat} (he : ∀ c, e c ≤ 1) {t r : Nat} (hr : r + 1 ≤ 12) (h0 : P t = 0) (h : ∀ j, j < 12 → j ≠ t → PS s e t r j (P j) (G j)) {c L g : Nat} (hC : CH s e P c 4 L g) : PS s e t (r + 1) c L g := by
  obtain ⟨h1, h2, h3⟩ := hC
  refine ⟨h1, fun hl => ?_, fun n x g' hn hw => ?_⟩
  · obtain ⟨k, k4, k12, k1, k2⟩ := h2 hl
    unfold pr at k1
    generalize hq : fb s c k = q at k12 k1
    by_cases hqt : q = t
    · subst hqt
      exact ⟨0, e q, ⟨k, 0, k2, k4, by rw [hq]; exact k12, by rw [hq]; omega, hq, rfl⟩, by omega⟩
    · obtain ⟨n, x, w1, w2⟩ := (h q k12 hqt).2.1 (by omega)
      exact ⟨n + 1, x + e q, ⟨k, x, k2, k4, by rw [hq]; exact k12, by rw [hq], by rw [hq]; exact wf_wk w1⟩, by omega⟩
  · obtain ⟨k, y, w0, w1, w2, w3, w4⟩ := hw
    have hle := wk_le he _ _ _ w4
    have h3k := h3 k w1 w2
    unfold pr at h3k
    generalize hq : fb s c k = q at w2 w3 w4 h3k
    have hP : P q ≤ n + 100 * y := by
      by_cases hqt : q = t
      · subst hqt; omega
      · cases n with
        | zero => exact absurd w4.1 hqt
        | succ n =>
          obtain ⟨g2, w5⟩ := wk_wf w4
          have := (h q w2 hqt).2.2 n y g2 (by omega) w5
          omega
    have heq := he q
    have := h3k (by omega)
    omega
theorem walk_eq {s e : Nat → Nat} (he : ∀ c, e c ≤ 1) {a t : Nat} (ha : a < 12) (ht : t < 12) (hat : a ≠ t) {F G : Nat → Nat} (h : FInv s e a F G) (hx : FFix s e a F G) {v g : Nat} (hP : PS s e t 12 a v g) : (F t = 100000 ∧ v = 1000000) ∨ ∃ n x, n ≤ 11 ∧ x ≤ 11 ∧ F t = n + 1000 * x ∧ v = n + 100 * x ∧ G t = g ∧ 0 < g ∧ g ≤ 4 := by
  obtain ⟨p1, p2, p3⟩ := hP
  by_cases hf : F t < 100000
  · obtain ⟨n, x, w1, w2, w3, w4⟩ := fr1 he ha h hx ht (Ne.symm hat) hf
    have hv := p3 n x (G t) (by omega) w1
    obtain ⟨n2, x2, u1, u2⟩ := p2 (by omega)
    obtain ⟨-, r2⟩ := fr2 he ha h hx u1
    have hg4 : 0 < g ∧ g ≤ 4 := by
      obtain ⟨k, y, y1, y2, -⟩ := u1
      omega
    right
    have e1 : n = n2 := by omega
    have e2 : x = x2 := by omega
    subst e1; subst e2
    exact ⟨n + 1, x, by omega, by omega, by omega, by omega, by omega, hg4.1, hg4.2⟩
  · left
    refine ⟨by have := (h.2.2.1 t ht).1; omega, ?_⟩
    by_cases hv : v < 1000000
    · obtain ⟨n2, x2, u1, u2⟩ := p2 hv
      have := (fr2 he ha h hx u1).1
      omega
    · omega
/-- the measure of the reference's loop -/
def mea (F G : Nat → Nat) : Nat → Nat
  | 0 => 0
  | j + 1 => mea F G j + (5 * F j + G j)
theorem mea_eq (F G : Nat → Nat) (q v g : Nat) : ∀ j, j ≤ q → mea (un F q v) (un G q g) j = mea F G j
  | 0, _ => rfl
  | j + 1, hj => by
    unfold mea
    rw [mea_eq F G q v g j (by omega), un_n (by omega), un_n (by omega)]
theorem mea_lt (F G : Nat → Nat) (q v g : Nat) (hg : g ≤ 4) (h : v < F q ∨ (v = F q ∧ g < G q)) : ∀ j, q < j → mea (un F q v) (un G q g) j < mea F G j
  | 0, hj => absurd hj (by omega)
  | j + 1, hj => by
    unfold mea
    by_cases e : j = q
    · subst e
      rw [mea_eq F G j v g j (by omega), un_s, un_s]
      omega
    · have := mea_lt F G q v g hg h j (by omega)
      rw [un_n e, un_n e]
      omega
