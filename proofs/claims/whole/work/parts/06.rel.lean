/-! HOW THE INTERPRETER'S PLACES STAND FOR CELLS: a value, a stack, an object, a heap, the locals -/
def RV (b : Nat → Nat) (ad : List Nat) (v w : Value) : Prop := match v with
  | .ref i => (SCR ≤ i ∧ w = .ref (b i)) ∨ (¬ SCR ≤ i ∧ ∃ a, ad[i]? = some a ∧ w = .ref a)
  | v => w = v
def RS (b : Nat → Nat) (ad : List Nat) : List Value → List Value → Prop
  | [], ws => ws = []
  | v :: t, ws => ∃ w u, ws = w :: u ∧ RV b ad v w ∧ RS b ad t u
def RO (b : Nat → Nat) (ad : List Nat) (tys : List (ClassId × FieldType)) (o : Ob) (e : va_E) : Prop := match o with
  | .inl q => ∃ cA, e = .inl (cA, q.1, .inl q.2) ∧ (cA, FieldType.int) ∈ tys
  | .inr q => ∃ gs, e = .inr (q.1, gs) ∧ RS b ad q.2 gs
def RH (b : Nat → Nat) (ad : List Nat) (tys : List (ClassId × FieldType)) (h : Hp) (ws : va_W) : Prop :=
  h.length = ad.length ∧ ws.length = ad.length ∧ ∀ (k : Nat) (o : Ob), h[k]? = some o → ∃ (a : Nat) (e : va_E), ad[k]? = some a ∧ ws[k]? = some (a, e) ∧ RO b ad tys o e
def RLo (b : Nat → Nat) (ad : List Nat) (nL : Nat) (ls : Ls) (lq : Lq) (lsA : Array Slot) : Prop :=
  ls.length = nL ∧ lsA.size = nL ∧ lv_wf lsA ∧ (∀ (i : Nat) (v : Value), ls[i]? = some (some v) → v.category = 1 ∧ ∃ w : Value, RV b ad v w ∧ lsA[i]? = some (.val w)) ∧ ∀ q ∈ lq, lsA[q.1]? = some (.val (.long q.2))
theorem RV.cat {b : Nat → Nat} {ad : List Nat} {v w : Value} (h : RV b ad v w) : w.category = v.category := by
  cases v with
  | ref i =>
    rcases h with ⟨-, rfl⟩ | ⟨-, a, -, rfl⟩ <;> rfl
  | _ => rw [show w = _ from h]
theorem RV.mono {b : Nat → Nat} {ad ad' : List Nat} (hm : ∀ (i a : Nat), ad[i]? = some a → ad'[i]? = some a) {v w : Value} (h : RV b ad v w) : RV b ad' v w := by
  cases v with
  | ref i =>
    rcases h with ⟨h1, h2⟩ | ⟨h1, a, h2, h3⟩
    · exact Or.inl ⟨h1, h2⟩
    · exact Or.inr ⟨h1, a, hm _ _ h2, h3⟩
  | _ => exact h
theorem RV.ref {b : Nat → Nat} {ad : List Nat} {i : Nat} {w : Value} (h : RV b ad (.ref i) w) : ∃ a, w = .ref a := by
  rcases h with ⟨-, h⟩ | ⟨-, a, -, h⟩
  · exact ⟨_, h⟩
  · exact ⟨_, h⟩
theorem RS.mono {b : Nat → Nat} {ad ad' : List Nat} (hm : ∀ (i a : Nat), ad[i]? = some a → ad'[i]? = some a) : ∀ {vs ws : List Value}, RS b ad vs ws → RS b ad' vs ws
  | [], _, h => h
  | _ :: _, _, ⟨w, u, h1, h2, h3⟩ => ⟨w, u, h1, h2.mono hm, RS.mono hm h3⟩
theorem RS.len {b : Nat → Nat} {ad : List Nat} : ∀ {vs ws : List Value}, RS b ad vs ws → ws.length = vs.length
  | [], _, h => by rw [show _ = [] from h]
  | _ :: _, _, ⟨w, u, h1, _, h3⟩ => by rw [h1, List.length_cons, List.length_cons, RS.len h3]
theorem RS.cs {b : Nat → Nat} {ad : List Nat} : ∀ {vs ws : List Value}, RS b ad vs ws → csum ws = csum vs
  | [], _, h => by rw [show _ = [] from h]
  | v :: t, _, ⟨w, u, h1, h2, h3⟩ => by
    have e := RS.cs h3
    subst h1
    simp only [csum, List.map_cons, List.sum_cons] at e ⊢
    rw [e, h2.cat]
theorem RS.get {b : Nat → Nat} {ad : List Nat} : ∀ {vs ws : List Value} {i : Nat} {v : Value}, RS b ad vs ws → vs[i]? = some v → ∃ w, ws[i]? = some w ∧ RV b ad v w
  | [], _, _, _, _, h => by simp at h
  | x :: t, _, 0, v, ⟨w, u, h1, h2, _⟩, h => by
    subst h1
    simp only [List.getElem?_cons_zero, Option.some.injEq] at h
    subst h
    exact ⟨w, rfl, h2⟩
  | x :: t, _, i + 1, v, ⟨w, u, h1, _, h3⟩, h => by
    subst h1
    simp only [List.getElem?_cons_succ] at h ⊢
    exact RS.get h3 h
theorem RS.set {b : Nat → Nat} {ad : List Nat} {v w : Value} (hv : RV b ad v w) : ∀ {vs ws : List Value} (i : Nat), RS b ad vs ws → RS b ad (vs.set i v) (ws.set i w)
  | [], ws, i, h => by rw [show ws = [] from h]; rfl
  | x :: t, _, 0, ⟨y, u, h1, h2, h3⟩ => by subst h1; exact ⟨w, u, rfl, hv, h3⟩
  | x :: t, _, i + 1, ⟨y, u, h1, h2, h3⟩ => by subst h1; exact ⟨y, u.set i w, rfl, h2, RS.set hv i h3⟩
theorem RS.drop {b : Nat → Nat} {ad : List Nat} : ∀ {vs ws : List Value} (i : Nat), RS b ad vs ws → RS b ad (vs.drop i) (ws.drop i)
  | [], ws, i, h => by rw [show ws = [] from h]; simp [RS]
  | x :: t, _, 0, h => h
  | x :: t, _, i + 1, ⟨y, u, h1, h2, h3⟩ => by subst h1; exact RS.drop i h3
theorem RS.take {b : Nat → Nat} {ad : List Nat} : ∀ {vs ws : List Value} (i : Nat), RS b ad vs ws → RS b ad (vs.take i) (ws.take i)
  | [], ws, i, h => by rw [show ws = [] from h]; simp [RS]
  | x :: t, _, 0, h => rfl
  | x :: t, _, i + 1, ⟨y, u, h1, h2, h3⟩ => by subst h1; exact ⟨y, u.take i, rfl, h2, RS.take i h3⟩
theorem RS.app {b : Nat → Nat} {ad : List Nat} : ∀ {v1 w1 v2 w2 : List Value}, RS b ad v1 w1 → RS b ad v2 w2 → RS b ad (v1 ++ v2) (w1 ++ w2)
  | [], w1, v2, w2, h, h2 => by rw [show w1 = [] from h]; exact h2
  | x :: t, _, v2, w2, ⟨y, u, h1, hv, h3⟩, h2 => by subst h1; exact ⟨y, u ++ w2, rfl, hv, RS.app h3 h2⟩
theorem RS.rev {b : Nat → Nat} {ad : List Nat} : ∀ {vs ws : List Value}, RS b ad vs ws → RS b ad vs.reverse ws.reverse
  | [], ws, h => by rw [show ws = [] from h]; rfl
  | x :: t, _, ⟨y, u, h1, hv, h3⟩ => by
    subst h1
    rw [List.reverse_cons, List.reverse_cons]
    exact RS.app (RS.rev h3) ⟨y, [], rfl, hv, rfl⟩
theorem RO.mono {b : Nat → Nat} {ad ad' : List Nat} {tys tys' : List (ClassId × FieldType)} (hm : ∀ (i a : Nat), ad[i]? = some a → ad'[i]? = some a) (ht : ∀ q ∈ tys, q ∈ tys') {o : Ob} {e : va_E} (h : RO b ad tys o e) : RO b ad' tys' o e := by
  cases o with
  | inl q =>
    obtain ⟨cA, h1, h2⟩ := h
    exact ⟨cA, h1, ht _ h2⟩
  | inr q =>
    obtain ⟨gs, h1, h2⟩ := h
    exact ⟨gs, h1, h2.mono hm⟩
theorem hg_some {h : Hp} {i : Nat} {o : Ob} (e : hg h i = some o) : ¬ SCR ≤ i ∧ h[i]? = some o := by
  unfold hg at e
  split at e
  · cases e
  · exact ⟨by assumption, e⟩
theorem RH.get {b : Nat → Nat} {ad : List Nat} {tys : List (ClassId × FieldType)} {h : Hp} {ws : va_W} (hR : RH b ad tys h ws) {i : Nat} {o : Ob} (e : hg h i = some o) {w : Value} (hv : RV b ad (.ref i) w) : ∃ a x, w = .ref a ∧ ad[i]? = some a ∧ ws[i]? = some (a, x) ∧ RO b ad tys o x := by
  obtain ⟨hn, e⟩ := hg_some e
  obtain ⟨a, x, h1, h2, h3⟩ := hR.2.2 i o e
  rcases hv with ⟨q, -⟩ | ⟨-, a', h4, h5⟩
  · exact absurd q hn
  · rw [h1] at h4
    cases h4
    exact ⟨a, x, h5, h1, h2, h3⟩
theorem RH.set {b : Nat → Nat} {ad : List Nat} {tys : List (ClassId × FieldType)} {h : Hp} {ws : va_W} (hR : RH b ad tys h ws) {i : Nat} {o : Ob} {a : Nat} {x : va_E} (ha : ad[i]? = some a) (ho : RO b ad tys o x) : RH b ad tys (h.set i o) (ws.set i (a, x)) := by
  refine ⟨by rw [List.length_set]; exact hR.1, by rw [List.length_set]; exact hR.2.1, fun k o' hk => ?_⟩
  by_cases hki : i = k
  · subst hki
    have hl : i < ad.length := (List.getElem?_eq_some_iff.mp ha).1
    rw [List.getElem?_set_self (by rw [hR.1]; exact hl)] at hk
    cases hk
    refine ⟨a, x, ha, ?_, ho⟩
    rw [List.getElem?_set_self (by rw [hR.2.1]; exact hl)]
  · rw [List.getElem?_set_ne hki] at hk
    obtain ⟨a', x', h1, h2, h3⟩ := hR.2.2 k o' hk
    exact ⟨a', x', h1, by rw [List.getElem?_set_ne hki]; exact h2, h3⟩
theorem ad_app {ad : List Nat} (q : Nat) : ∀ (i a : Nat), ad[i]? = some a → (ad ++ [q])[i]? = some a := by
  intro i a h
  rw [List.getElem?_append_left (List.getElem?_eq_some_iff.mp h).1]
  exact h
theorem RH.push {b : Nat → Nat} {ad : List Nat} {tys tys' : List (ClassId × FieldType)} {h : Hp} {ws : va_W} (hR : RH b ad tys h ws) (ht : ∀ q ∈ tys, q ∈ tys') {o : Ob} {q : Nat} {x : va_E} (ho : RO b (ad ++ [q]) tys' o x) : RH b (ad ++ [q]) tys' (h ++ [o]) (ws ++ [(q, x)]) := by
  refine ⟨by simp [hR.1], by simp [hR.2.1], fun k o' hk => ?_⟩
  rcases Nat.lt_or_ge k h.length with hl | hl
  · rw [List.getElem?_append_left hl] at hk
    obtain ⟨a', x', h1, h2, h3⟩ := hR.2.2 k o' hk
    refine ⟨a', x', ad_app q _ _ h1, ?_, h3.mono (ad_app q) ht⟩
    rw [List.getElem?_append_left (by rw [hR.2.1, ← hR.1]; exact hl)]
    exact h2
  · rw [List.getElem?_append_right hl] at hk
    have hz : k - h.length = 0 := by
      have := (List.getElem?_eq_some_iff.mp hk).1
      simp at this
      omega
    rw [hz] at hk
    simp at hk
    subst hk
    refine ⟨q, x, ?_, ?_, ho⟩
    · rw [List.getElem?_append_right (by rw [← hR.1]; exact hl), ← hR.1, hz]; rfl
    · rw [List.getElem?_append_right (by rw [hR.2.1, ← hR.1]; exact hl), hR.2.1, ← hR.1, hz]; rfl
theorem RV.new {b : Nat → Nat} {q n : Nat} {ad : List Nat} (hn : ad.length = n) (hs : n < SCR) : RV b (ad ++ [q]) (.ref n) (.ref q) := by
  refine Or.inr ⟨Nat.not_le.mpr hs, q, ?_, rfl⟩
  rw [List.getElem?_append_right (by omega), hn, Nat.sub_self]; rfl
def lvOf (lsA : Array Slot) : List (Nat × Value) := (List.range lsA.size).filterMap (fun i => match lsA[i]? with
  | some (Slot.val w) => some (i, w)
  | _ => none)
theorem lvOf_mem {lsA : Array Slot} {i : Nat} {w : Value} : (i, w) ∈ lvOf lsA ↔ lsA[i]? = some (.val w) := by
  unfold lvOf
  rw [List.mem_filterMap]
  constructor
  · rintro ⟨j, -, h⟩
    split at h
    · rename_i x hx
      simp only [Option.some.injEq, Prod.mk.injEq] at h
      obtain ⟨rfl, rfl⟩ := h
      exact hx
    · cases h
  · intro h
    refine ⟨i, List.mem_range.mpr (Array.getElem?_eq_some_iff.mp h).1, ?_⟩
    rw [h]
theorem RLo.has {b : Nat → Nat} {ad : List Nat} {nL : Nat} {ls : Ls} {lq : Lq} {lsA : Array Slot} (h : RLo b ad nL ls lq lsA) : lv_has lsA nL (lvOf lsA) := ⟨h.2.1, h.2.2.1, fun q hq => lvOf_mem.mp hq⟩
theorem RLo.mono {b : Nat → Nat} {ad ad' : List Nat} {nL : Nat} {ls : Ls} {lq : Lq} {lsA : Array Slot} (hm : ∀ (i a : Nat), ad[i]? = some a → ad'[i]? = some a) (h : RLo b ad nL ls lq lsA) : RLo b ad' nL ls lq lsA :=
  ⟨h.1, h.2.1, h.2.2.1, fun i v hv => by
    obtain ⟨h1, w, h2, h3⟩ := h.2.2.2.1 i v hv
    exact ⟨h1, w, h2.mono hm, h3⟩, h.2.2.2.2⟩
theorem RLo.i {b : Nat → Nat} {ad : List Nat} {nL : Nat} {ls : Ls} {lq : Lq} {lsA : Array Slot} (h : RLo b ad nL ls lq lsA) {i : Nat} {x : Int32} (e : ls[i]? = some (some (.int x))) : lsA[i]? = some (.val (.int x)) := by
  obtain ⟨-, w, h2, h3⟩ := h.2.2.2.1 i _ e
  rw [show w = .int x from h2] at h3
  exact h3
theorem RLo.r {b : Nat → Nat} {ad : List Nat} {nL : Nat} {ls : Ls} {lq : Lq} {lsA : Array Slot} (h : RLo b ad nL ls lq lsA) {i : Nat} {x : Nat} (e : ls[i]? = some (some (.ref x))) : ∃ a, RV b ad (.ref x) (.ref a) ∧ lsA[i]? = some (.val (.ref a)) := by
  obtain ⟨-, w, h2, h3⟩ := h.2.2.2.1 i _ e
  obtain ⟨a, rfl⟩ := h2.ref
  exact ⟨a, h2, h3⟩
theorem RLo.stor {b : Nat → Nat} {ad : List Nat} {nL : Nat} {ls : Ls} {lq : Lq} {lsA ls' : Array Slot} {n : Nat} {v w : Value} (h : RLo b ad nL ls lq lsA) (hv : RV b ad v w) (hc : v.category = 1) (hn : n < ls.length)
    (h' : lv_has ls' nL ((n, w) :: (lvOf lsA).filter (fun q => !(q.1 == n) && !(q.1 + 1 == n && q.2.category == 2)))) : RLo b ad nL (ls.set n (some v)) (lq.filter (fun q => !(q.1 == n) && !(q.1 + 1 == n))) ls' := by
  refine ⟨by rw [List.length_set]; exact h.1, h'.1, h'.2.1, fun i x hx => ?_, fun q hq => ?_⟩
  · by_cases hi : n = i
    · subst hi
      rw [List.getElem?_set_self hn] at hx
      cases hx
      exact ⟨hc, w, hv, h'.2.2 (n, w) List.mem_cons_self⟩
    · rw [List.getElem?_set_ne hi] at hx
      obtain ⟨h1, y, h2, h3⟩ := h.2.2.2.1 i x hx
      refine ⟨h1, y, h2, h'.2.2 (i, y) (List.mem_cons_of_mem _ (List.mem_filter.mpr ⟨lvOf_mem.mpr h3, ?_⟩))⟩
      have e1 : (i == n) = false := by simpa using fun q => hi q.symm
      have e2 : y.category = 1 := by rw [h2.cat]; exact h1
      simp [e1, e2]
  · obtain ⟨hq, hf⟩ := List.mem_filter.mp hq
    simp only [Bool.and_eq_true, Bool.not_eq_true'] at hf
    refine h'.2.2 (q.1, .long q.2) (List.mem_cons_of_mem _ (List.mem_filter.mpr ⟨lvOf_mem.mpr (h.2.2.2.2 q hq), ?_⟩))
    simp [hf.1, hf.2]
theorem RLo.storL {b : Nat → Nat} {ad : List Nat} {nL : Nat} {ls : Ls} {lq : Lq} {lsA ls' : Array Slot} {n : Nat} {x : Int64} (h : RLo b ad nL ls lq lsA) (hn : n + 1 < ls.length)
    (h' : lv_has ls' nL ((n, .long x) :: (lvOf lsA).filter (fun q => !(q.1 == n) && (!(q.1 == n + 1) && !(q.1 + 1 == n && q.2.category == 2))))) : RLo b ad nL ((ls.set n none).set (n + 1) none) ((n, x) :: lq.filter (fun q => !(q.1 == n) && (!(q.1 == n + 1) && !(q.1 + 1 == n)))) ls' := by
  refine ⟨by rw [List.length_set, List.length_set]; exact h.1, h'.1, h'.2.1, fun i v hv => ?_, fun q hq => ?_⟩
  · by_cases hi : n + 1 = i
    · subst hi
      rw [List.getElem?_set_self (by rw [List.length_set]; exact hn)] at hv
      cases hv
    · rw [List.getElem?_set_ne hi] at hv
      by_cases hj : n = i
      · subst hj
        rw [List.getElem?_set_self (by omega)] at hv
        cases hv
      · rw [List.getElem?_set_ne hj] at hv
        obtain ⟨h1, y, h2, h3⟩ := h.2.2.2.1 i v hv
        refine ⟨h1, y, h2, h'.2.2 (i, y) (List.mem_cons_of_mem _ (List.mem_filter.mpr ⟨lvOf_mem.mpr h3, ?_⟩))⟩
        have e2 : y.category = 1 := by rw [h2.cat]; exact h1
        simp [e2]
        exact ⟨fun q => hj q.symm, fun q => hi q.symm⟩
  · rcases List.mem_cons.mp hq with rfl | hq
    · exact h'.2.2 (n, .long x) List.mem_cons_self
    · obtain ⟨hq, hf⟩ := List.mem_filter.mp hq
      simp only [Bool.and_eq_true, Bool.not_eq_true'] at hf
      refine h'.2.2 (q.1, .long q.2) (List.mem_cons_of_mem _ (List.mem_filter.mpr ⟨lvOf_mem.mpr (h.2.2.2.2 q hq), ?_⟩))
      simp [hf.1, hf.2.1, hf.2.2]
