/-! THE CLAIM OUT OF ONE WALK OF THE LAW'S BODY. Your part is whole_start (and what it stands on); all else here is the same for every law, but numbers. -/
def R_law : String := "MirrorClerksLaw"
def lw_P (b : Addr) (xs : List Int32) (args : Array Value) (s : State) : Prop := args = #[.ref b] ∧ s.IntsAt b xs ∧ xs.length ≤ 2048 ∧ (Jvm.Cond.and given_1 narrow_1).before args s = true
def lw_Q (_ : Array Value) (s : State) (o : Outcome) (t : State) : Prop := o = .returned (some (.int 1)) ∧ Framed s o t [] 40 317
def lw_Z (below : List Frame) (a : Array Value) (s : State) : State → Prop := fun t => ∃ o, t.status = .running ∧ Ended t below o ∧ lw_Q a s o t
/-- the law's own end, with 1 on the stack, nothing written that was there before, its room as the claim has it -/
theorem lw_ret {p : Program} {l : Launch} {e : Env} {s : State} {m : MethodId} {below : List Frame} {meth : Method} {c : Code} {b : Nat} (hx : p.tables.exec = Jvm.exec) (hb : c.code = code) (hr : meth.sig.returnType = ret) (hlocks : meth.locks = false) {pc : Nat} {H : Heap} {ls : Array Slot} (hdg : decode code pc = .ok (.ireturn, 1)) : W p l e room_1 s m #[Value.ref b] below meth c H [] 40 317 (lw_Z below #[Value.ref b] s) (F0 m pc ls [.int 1]) := by
  intro T hT X
  obtain ⟨fs, hret, hrun, hended, hW, hframe⟩ := X.leave (v := some (.int 1)) (hlocks := hlocks) (fun h => by rw [hr] at h; cases h)
  have hmeth' : T.vm.method? m = some meth := X.method'
  refine ⟨T.setFrames fs, ?_, .returned (some (.int 1)), hrun, hended, rfl, ⟨_, rfl⟩, hW, hframe⟩
  jvm_step X.here [X.here.top, hx, hb, hdg, hmeth', hr, ret, narrow_b1]
  (try refine ⟨rfl, ?_⟩); (try refine ⟨rfl, ?_⟩)
  first | (intro acts; rw [hret _ acts rfl rfl rfl]) | rw [hret _ _ rfl rfl rfl]
  exact Steps.refl _
/-- what holds at the law's entry: the machine, the code, the tables' words (any of lw_tbl by 'hts w (by decide +kernel)'), the script of L ints xs at the cell b, what the Statement gives of the start (any of its parts by flat_of_before) -/
def lw_At (p : Program) (s : State) (m : MethodId) (meth : Method) (c : Code) (b L : Nat) (xs : Nat → Int32) : Prop :=
  p.tables.exec = Jvm.exec ∧ c.code = code ∧ meth.sig.returnType = ret ∧ c.maxLocals = 4 ∧ s.vm.findClass R_law = some m.cls ∧ (∀ w ∈ lw_tbl, w.before #[Value.ref b] s = true) ∧ va_X b L xs s s.heap ∧ b < s.heap.size ∧ meth.locks = false ∧ (Jvm.Cond.and given_1 narrow_1).before #[Value.ref b] s = true

/-- what is left: the interpreter's law ends with 1 -/
def PURE : Prop := ∀ (L : Nat) (xs : Nat → Int32), L ≤ 2048 → ∃ n h', run (L, xs) n (start [] LAWM [.ref SCR]) = some (some (.int 1), h')
theorem law_ret {p : Program} {l : Launch} {e : Env} {s : State} {m : MethodId} {below : List Frame} {meth : Method} {c : Code} {D : va_G} {sc : Nat × (Nat → Int32)} {b : Nat} {bx : Nat → Nat} {ad0 : List Nat} (C : CTX p room_1 s m #[Value.ref b] meth c LAWM sc bx s.heap (fun q => s.heap.size ≤ q)) (hr : meth.sig.returnType = ret) (hlocks : meth.locks = false) {h' : Hp}
    (cf : Cf) (E : retE cf = some (some (.int 1), h')) : OKC p l e room_1 s m #[Value.ref b] below meth c D LAWM bx ad0 s.heap (fun q => s.heap.size ≤ q) (lw_Z below #[Value.ref b] s) cf := by
  obtain ⟨k', pc, ls, lq, st, h, cb, sb⟩ := cf
  intro hkk ad tys ws H locs lsA stA cells slots hM hL hS hH hK hP hD hV hcb hsb
  obtain ⟨hx, hb, -⟩ := C
  unfold retE at E
  dsimp only at E
  have e40 : MC LAWM = 40 := rfl
  have e317 : MS LAWM = 317 := rfl
  refine W.widen (k := 40) (n := 317) (by omega) (by omega) ?_
  refine va_forget (fun q hq => hV.2.2 q hq) ?_
  split at E
  · cases E
  rename_i pc0 i len a2 b2 c0 z hfe
  obtain ⟨rfl, hC⟩ := fetch_chk hfe
  split at E
  · obtain ⟨hd, hl⟩ := andT hC; have hd := of_decide_eq_true hd; obtain rfl := eq_of_beq hl
    split at E
    · rename_i x
      split at E
      · rename_i hro
        cases E
        obtain ⟨u, rfl, hu⟩ := hS.i
        rw [show u = [] from hu]
        rw [hkk] at hd
        exact lw_ret hx hb hr hlocks hd
      · cases E
    · cases E
  · split at E
    · split at E <;> cases E
    · cases E
  · split at E
    · split at E <;> cases E
    · cases E
  · cases E
theorem lay_tbl {a : Nat} (h : a < 9) : ∀ w ∈ u_ws (RC a) (TT a) (NF a), w ∈ lw_tbl := fun w hw => gw_in w (lay_in a h w hw)
set_option maxRecDepth 100000 in
theorem ck_sref : Jvm.Cond.stringRef "MirrorClerks$Page" 39 ".#mbfwv" ∈ lw_tbl := List.mem_of_getElem? (i := 272) (by decide +kernel)
set_option maxRecDepth 100000 in
theorem ck_istr : Jvm.Cond.initialized "java/lang/String" ∈ lw_tbl := List.mem_of_getElem? (i := 39) (by decide +kernel)
set_option maxRecDepth 100000 in
theorem ck_static : Jvm.Cond.laysStatic "java/lang/String" "COMPACT_STRINGS" "Z" ∈ lw_tbl := List.mem_of_getElem? (i := 286) (by decide +kernel)
set_option maxRecDepth 100000 in
theorem ck_inst : ((List.range 9).all (fun a => lw_tbl.any (fun w => decide (w = .instantiable (RC a) (NF a))))) = true := by decide +kernel
theorem inst_tbl {a : Nat} (h : a < 9) : Jvm.Cond.instantiable (RC a) (NF a) ∈ lw_tbl := by
  have h1 := List.all_eq_true.mp ck_inst a (List.mem_range.mpr h)
  obtain ⟨w, hw, e⟩ := List.any_eq_true.mp h1
  rw [← of_decide_eq_true e]
  exact hw
theorem law_walk {p : Program} {e : Env} {s : State} {m : MethodId} {below : List Frame} {meth : Method} {c : Code} (l : Launch) (hpure : PURE) {b L : Nat} {xs : Nat → Int32} (hL : L ≤ 2048) (C0 : lw_At p s m meth c b L xs) : W p l e room_1 s m #[Value.ref b] below meth c s.heap [] 0 0 (lw_Z below #[Value.ref b] s) (entryFrame m ([Value.ref b] : List Value).toArray 4) := by
  obtain ⟨hx, hb, hr, hml, hown, hts, hX, hbl, hlocks, hgv⟩ := id C0
  have kn : ∀ a, ∃ q : ClassId × (Nat → Nat), a < 9 → u_Kn s (RC a) (TT a) (NF a) q.1 q.2 := by
    intro a
    by_cases h : a < 9
    · obtain ⟨c0, iS0, h0⟩ := u_known (C := RC a) (T := TT a) (N := NF a) (n := NF a) hts (lay_tbl h) (hts _ (inst_tbl h))
      exact ⟨(c0, iS0), fun _ => h0⟩
    · exact ⟨(0, fun _ => 0), fun q => absurd q h⟩
  obtain ⟨dd, hdd⟩ := Classical.axiomOfChoice kn
  have hK : va_K (fun a => (dd a).1, fun a => (dd a).2) vwCl [] s := by
    refine ⟨fun k q hq => ?_, fun k q h => by simp at h⟩
    have h9 : k < 9 := (List.getElem?_eq_some_iff.mp hq).1
    rw [vw_at k h9] at hq
    cases hq
    exact hdd k h9
  have hP : va_P (fun a => (dd a).1, fun a => (dd a).2) vwCl [] s.heap := fun k q h => by simp at h
  have hD : va_D (fun q : Nat => s.heap.size ≤ q) [] := ⟨fun i j p q h => by simp at h, fun k q h => by simp at h⟩
  have hN : ∀ w ∈ NWL, va_Nw w s := fun w hw => by
    obtain ⟨a, i, x, hst, rfl⟩ := nwl_form hw
    exact va_Nw.of rfl (hts _ (nest_in hw))
  have hf := flat_of_before _ hgv
  have hA0 : ∀ a : Nat, a < s.heap.size → ¬ (fun q : Nat => s.heap.size ≤ q) a := fun a h => Nat.not_le.mpr h
  obtain ⟨adK, adV, hvS, hvE⟩ := vk_Sof (N := 1) (tm := fun _ => .string "MirrorClerks$Page" 39) (len := [7]) (byt := [BYTES]) (A := fun q : Nat => s.heap.size ≤ q)
    (fun i hi => by rw [show i = 0 by omega]; decide)
    (fun i hi => hf _ (by decide +kernel))
    (fun i hi => hf _ (by decide +kernel))
    (fun i hi => hf _ (by decide +kernel))
    (fun i hi => by rw [show i = 0 by omega]; exact hf _ (by decide +kernel))
    (fun i hi j hj => by
      rw [show i = 0 by omega] at hj ⊢
      have hj : j < 7 := hj
      match j, hj with
      | 0, _ => exact hf _ (by decide +kernel)
      | 1, _ => exact hf _ (by decide +kernel)
      | 2, _ => exact hf _ (by decide +kernel)
      | 3, _ => exact hf _ (by decide +kernel)
      | 4, _ => exact hf _ (by decide +kernel)
      | 5, _ => exact hf _ (by decide +kernel)
      | 6, _ => exact hf _ (by decide +kernel)
      | n + 7, h => exact absurd h (by omega))
    (fun i j hi hj hij => absurd (show i = j by omega) hij) hA0
  have hvZ : va_Z "java/lang/String" "COMPACT_STRINGS" "Z" (.int 1) (fun q : Nat => s.heap.size ≤ q) s s.heap :=
    va_Zof (hts _ ck_static) (hts _ ck_istr) (va_eqi (hf _ (by decide +kernel))) hA0
  have hvR : vk_R "MirrorClerks$Page" 39 ".#mbfwv" (adK 0) s := vk_R.of (hts _ ck_sref) (hvE 0 (by decide))
  let bx : Nat → Nat := fun i => if i = SCR then b else if i = STRR then adK 0 else adV 0
  have hvS2 : vk_S 1 [7] [BYTES] (fun _ => bx STRR) (fun _ => bx BYTR) (fun q : Nat => s.heap.size ≤ q) s s.heap :=
    ⟨fun i hi => by rw [show i = 0 by omega]; exact hvS.1 0 (by decide), fun i j hi hj _ => by omega⟩
  have C : CTX p room_1 s m #[Value.ref b] meth c LAWM (L, xs) bx s.heap (fun q => s.heap.size ≤ q) :=
    ⟨hx, hb, hml, hown, fun w h => hts w (gw_in w h), ⟨hN, ⟨hvR, hvS2, hvZ⟩, rfl⟩, fun q => absurd rfl q, fun _ h => h, fun _ => ⟨hX, hbl, Nat.not_le.mpr hbl⟩, by decide, by decide, by decide, by decide⟩
  obtain ⟨n, h', hrun⟩ := hpure L xs hL
  have hl := start_rel (b := bx) (ad := []) (nL := 4) (vs := [.ref SCR]) (as := [.ref b]) ⟨_, _, rfl, Or.inl ⟨Nat.le_refl _, rfl⟩, rfl⟩ (by decide)
  rw [lg_entry_eq]
  exact frame_ok (D := (fun a => (dd a).1, fun a => (dd a).2)) (ad0 := []) C (by decide) n (fun n' hn' => con_ok l (L, xs) n n' hn') (law_ret C hr hlocks) n (Nat.le_refl _) _ hrun rfl [] [] [] s.heap [] _ [] 0 0 (fun _ _ h => h) hl rfl ⟨rfl, rfl, fun k o h => by simp at h⟩ hK hP hD va_S.rf (by decide) (by decide)
