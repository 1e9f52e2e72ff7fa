/-! THE INTERPRETER IS SOUND: calls, frames, contracts -/
def ROP (b : Nat → Nat) (ad : List Nat) (v w : Option Value) : Prop := match v, w with
  | none, none => True
  | some v, some w => RV b ad v w
  | _, _ => False
def QG (bb : Nat → Nat) (ad : List Nat) (o : Ot) (D : va_G) (A : Nat → Prop) : Array Value → State → Outcome → State → Prop := fun _ st oc t =>
  (∃ (w : Option Value) (ad' : List Nat) (tys' : List (ClassId × FieldType)) (ws' : va_W), oc = .returned w ∧ ROP bb ad' o.1 w ∧ (∀ (i a : Nat), ad[i]? = some a → ad'[i]? = some a) ∧ RH bb ad' tys' o.2 ws' ∧ va_P D vwCl ws' t.heap ∧ va_K D vwCl tys' t ∧ va_D A ws') ∧ va_F A st t
def RM (j : Nat) : Room := { frames := RK j, cells := MC j, slots := MS j, locals := 30 * RK j }
def CON (l : Launch) (j : Nat) (vs : List Value) (h : Hp) (o : Ot) : Prop := csum vs ≤ NL j → ∀ (D : va_G) (bb : Nat → Nat) (ad : List Nat) (tys : List (ClassId × FieldType)) (ws : va_W) (sz : Nat) (as : List Value), RS bb ad vs as → RH bb ad tys h ws →
  Met l (YN j) (.code (YN j) (BC j) (NL j) (RT j) :: GW) (RM j) (va_Pc as (fun U => U.heap.size = sz ∧ va_P D vwCl ws U.heap ∧ va_K D vwCl tys U ∧ ((∀ w ∈ NWL, va_Nw w U) ∧ SWp bb (va_A ws sz) U U.heap) ∧ va_D (fun _ => True) ws)) (QG bb ad o D (va_A ws sz)) (MC j) (MS j) (va_A ws sz)
theorem ROP.rs {b : Nat → Nat} {ad : List Nat} {v w : Option Value} (h : ROP b ad v w) {t u : List Value} (ht : RS b ad t u) : RS b ad (v.toList ++ t) (w.toList ++ u) := by
  cases v with
  | none => cases w with
    | none => exact ht
    | some w => exact h.elim
  | some v => cases w with
    | none => exact h.elim
    | some w => exact ⟨w, u, rfl, h, ht⟩
theorem va_callG {p : Program} {l : Launch} {e : Env} {R : Room} {s : State} {m : MethodId} {args : Array Value} {below : List Frame} {meth : Method} {c : Code} {H : Heap} {locs : List Loc} {cells slots : Nat} {Q : State → Prop}
    {pc : Nat} {ls : Array Slot} {rest st0 : List Value} {a : Array Value} {A0 A1 : Nat → Prop} {H0 : Heap} {mc ms : Nat} {free : Addr → Prop} {bb : Nat → Nat} {ad : List Nat} {o : Ot} {D : va_G}
    (hr : va_Run p l e R s m args below meth c H locs cells slots mc ms (F0 m pc ls st0) rest (QG bb ad o D A1 a) free) (hS : va_S A0 H0 H locs) (hA : ∀ q, q < H.size → A1 q → A0 q) (hf : ∀ q, free q → A0 q)
    (kk : ∀ (w : Option Value) (ad' : List Nat) (tys' : List (ClassId × FieldType)) (ws' : va_W) (H1 : Heap) (locs1 : List Loc), ROP bb ad' o.1 w → (∀ (i a : Nat), ad[i]? = some a → ad'[i]? = some a) → RH bb ad' tys' o.2 ws' → va_P D vwCl ws' H1 → va_K D vwCl tys' s → va_D A1 ws' → va_S A0 H0 H1 locs1 →
      W p l e R s m args below meth c H1 locs1 (cells + mc) (slots + ms) Q (F0 m (pc + 3) ls (w.toList ++ rest))) : W p l e R s m args below meth c H locs cells slots Q (F0 m pc ls st0) := by
  intro T hT X
  obtain ⟨v, st₀, t, T', L, h0, X', hL, e1, e2, ⟨⟨w, ad', tys', ws', hv, hp, hm, hR, hP, hK, hD⟩, hz, hk⟩, st⟩ := hr T hT X
  cases hv
  rw [h0] at hz hk
  have hal : s.vm.Alike t.vm := by rw [← e2]; exact X'.warmed.alike
  obtain ⟨t2, a1, b1⟩ := kk v ad' tys' ws' T'.heap (locs ++ L) hp hm hR (by rw [e1]; exact hP) (va_K.moved hal.symm hK) hD
    ⟨Nat.le_trans hS.1 (by rw [e1]; exact hz), fun q h1 h2 => by rw [e1, hk q (Nat.lt_of_lt_of_le h1 hS.1) (fun z => h2 (hA q (Nat.lt_of_lt_of_le h1 hS.1) z))]; exact hS.2.1 q h1 h2, fun q hq => by
      rcases List.mem_append.mp hq with h | h
      · exact hS.2.2 q h
      · exact hf _ (hL q h)⟩ T' rfl X'
  exact ⟨t2, st t2 a1, b1⟩
theorem nwl_form {w : Jvm.Cond} (h : w ∈ NWL) : ∃ a i x hst, w = .methodLinkNest a i x hst := by
  have e : NWL.all (fun w => match w with
    | .methodLinkNest .. => true
    | _ => false) = true := by decide +kernel
  have h2 := List.all_eq_true.mp e w h
  cases w <;> first | exact ⟨_, _, _, _, rfl⟩ | (exfalso; simp at h2; done)
theorem nwl_warm {s U : State} (hW : s.WarmedH U.vm) (h : ∀ w ∈ NWL, va_Nw w s) : ∀ w ∈ NWL, va_Nw w U := by
  intro w hw
  obtain ⟨a, i, x, hst, rfl⟩ := nwl_form hw
  exact va_Nw.warmM hW (h _ hw)
theorem nwl_same {u U : State} (hvm : u.vm = U.vm) (h : ∀ w ∈ NWL, va_Nw w u) : ∀ w ∈ NWL, va_Nw w U := by
  intro w hw
  obtain ⟨a, i, x, hst, rfl⟩ := nwl_form hw
  exact va_Nw.same rfl hvm (h _ hw)
theorem SWp.same {b : Nat → Nat} {A : Nat → Prop} {u U : State} {H : Heap} (hvm : U.vm = u.vm) (h : SWp b A u H) : SWp b A U H :=
  ⟨h.1.same hvm, vk_S.moved (by rw [hvm]; exact Vm.Alike.refl _) h.2.1, va_Z.moved (by rw [hvm]; exact Vm.Alike.refl _) h.2.2⟩
theorem SWp.go {b : Nat → Nat} {A B : Nat → Prop} {s U : State} {H : Heap} {locs : List Loc} (hW : s.WarmedH U.vm) (hV : va_S A s.heap H locs) (hB : ∀ q, B q → A q) (h : SWp b A s s.heap) : SWp b B U H :=
  ⟨h.1.warm hW, vk_S.moved hW.alike ((h.2.1.kept hV.2.1).narrow hB), va_Z.moved hW.alike ((h.2.2.kept hV.2.1).narrow hB)⟩
theorem con_pre {s : State} {H : Heap} {D : va_G} {ws : va_W} {tys : List (ClassId × FieldType)} {A : Nat → Prop} {as : List Value} {b : Nat → Nat} {locs : List Loc} (hK : va_K D vwCl tys s) (hP : va_P D vwCl ws H) (hD : va_D A ws) (hN : ∀ w ∈ NWL, va_Nw w s) (hSW : SWp b A s s.heap) (hV : va_S A s.heap H locs) (hB : ∀ q, va_A ws H.size q → A q) :
    PreS s H (va_Pc as (fun U => U.heap.size = H.size ∧ va_P D vwCl ws U.heap ∧ va_K D vwCl tys U ∧ ((∀ w ∈ NWL, va_Nw w U) ∧ SWp b (va_A ws H.size) U U.heap) ∧ va_D (fun _ => True) ws)) as := by
  refine ⟨fun a U g mk q => ?_, fun U hU hW => ⟨rfl, by rw [hU], by rw [hU]; exact hP, va_K.moved hW.alike hK, ⟨nwl_warm hW hN, by rw [hU]; exact SWp.go hW hV hB hSW⟩, hD.weaken (fun _ _ _ _ => trivial)⟩⟩
  obtain ⟨q0, q1, qP, qK, ⟨qN, qS⟩, qD⟩ := q
  exact ⟨q0, q1, qP, va_K.moved (u := U) (U := U.calling g mk a) (Vm.Alike.refl U.vm) qK, ⟨nwl_same (u := U) (U := U.calling g mk a) rfl qN, SWp.same (u := U) (U := U.calling g mk a) rfl qS⟩, qD⟩
theorem call_some {recv : Bool} {k pc : Nat} {ls : Ls} {lq : Lq} {st : List Value} {h : Hp} {cb sb b n : Nat} {x : Cf × Cf} (E : call recv k pc ls lq st h cb sb b n = some (.inr x)) :
    ∃ m, m = (if recv = true then n + 1 else n) ∧ m ≤ st.length ∧ csum (st.drop m) ≤ 8 ∧ csum (st.take m) ≤ NL b ∧ MC b ≤ cb ∧ MS b ≤ sb ∧ (recv = true → rcv h (CK b) (st.drop n) = true) ∧ x = (start h b (st.take m).reverse, (k, pc + 3, ls, lq, st.drop m, h, cb - MC b, sb - MS b)) := by
  unfold call at E
  dsimp only at E
  refine ⟨_, rfl, ?_⟩
  generalize (if recv = true then n + 1 else n) = m at E ⊢
  by_cases hc : m ≤ st.length ∧ csum (st.drop m) ≤ 8 ∧ csum (st.take m) ≤ NL b ∧ MC b ≤ cb ∧ MS b ≤ sb ∧ (recv = true → rcv h (CK b) (st.drop n) = true)
  · rw [if_pos hc] at E
    cases E
    obtain ⟨h1, h2, h3, h4, h5, h6⟩ := hc
    exact ⟨h1, h2, h3, h4, h5, h6, rfl⟩
  · rw [if_neg hc] at E
    cases E
theorem gw_goodin {ws : List Jvm.Cond} (h : ∀ w ∈ ws, w ∈ GW) : GoodIn GW ws := fun w hw => ⟨h w hw, good_of_word (gw_good w (h w hw))⟩
/-- what is known of a callee by the tables -/
theorem callee_ok {k b : Nat} {z : Int} (h : iok k b z = true) : b < 148 ∧ RK b < RK k ∧ wat (PCo b) (.code (YN b) (BC b) (NL b) (RT b)) = true ∧ plainName (YN b).cls = true ∧ (YN b).cls = RC (CK b) ∧ (YN b).cls ≠ "java/lang/invoke/MethodHandle" ∧ (YN b).cls ≠ "java/lang/invoke/VarHandle" ∧ NL b ≤ 11 ∧ wat (PIi b) (.initialized (YN b).cls) = true ∧ (parseMethodDescriptor (YN b).desc).map (fun d => d.parameters.length) = some z.toNat := by
  obtain ⟨h, h4⟩ := andT h
  obtain ⟨h, h3⟩ := andT h
  obtain ⟨h1, h2⟩ := andT h
  have h2 := of_decide_eq_true h2
  have h4 := of_decide_eq_true h4
  have hb : b < 148 := by
    have e : LAWM = 148 := rfl
    rw [e] at h4
    omega
  have hm := chkM_ok hb
  obtain ⟨hm, -⟩ := andT hm
  obtain ⟨hm, m7⟩ := andT hm
  obtain ⟨hm, m6⟩ := andT hm
  obtain ⟨hm, m5⟩ := andT hm
  obtain ⟨hm, m4⟩ := andT hm
  obtain ⟨hm, m3⟩ := andT hm
  obtain ⟨m1, m2⟩ := andT hm
  exact ⟨hb, of_decide_eq_true h1, m1, m2, of_decide_eq_true m3, of_decide_eq_true m4, of_decide_eq_true m5, of_decide_eq_true m6, m7, of_decide_eq_true h3⟩
theorem take_recv {st : List Value} {n : Nat} {v : Value} {r : List Value} (h : st.drop n = v :: r) : st.take (n + 1) = st.take n ++ [v] ∧ st.drop (n + 1) = r ∧ n < st.length := by
  refine ⟨?_, ?_, ?_⟩
  · rw [List.take_add, h]; rfl
  · rw [← List.drop_drop, h]; rfl
  · rcases Nat.lt_or_ge n st.length with q | q
    · exact q
    · rw [List.drop_eq_nil_of_le q] at h; cases h
theorem rcv_some {h : Hp} {ci : Nat} {st : List Value} (e : rcv h ci st = true) : ∃ p r, st = .ref p :: r ∧ ((p = STRR ∧ ci = 11) ∨ ∃ fs, hg h p = some (.inr (ci, fs))) := by
  unfold rcv at e
  split at e
  · split at e
    · rename_i hp
      exact ⟨_, _, rfl, Or.inl ⟨hp, eq_of_beq e⟩⟩
    · split at e
      · rename_i c fs hc
        have : c = ci := by simpa using e
        subst this
        exact ⟨_, _, rfl, Or.inr ⟨_, hc⟩⟩
      · cases e
  · cases e
theorem csum_rev (l : List Value) : csum l.reverse = csum l := by simp [csum, List.map_reverse, List.sum_reverse]
set_option maxHeartbeats 4000000 in
/-- a call: the callee's contract, then what the caller goes on with -/
theorem call_gen {p : Program} {l : Launch} {e : Env} {R : Room} {s : State} {m : MethodId} {args : Array Value} {below : List Frame} {meth : Method} {c : Code} {D : va_G} {k : Nat} {sc : Nat × (Nat → Int32)} {b : Nat → Nat} {ad0 : List Nat} {H0 : Heap} {A : Nat → Prop} {Q : State → Prop} (C : CTX p R s m args meth c k sc b H0 A)
    {pc : Nat} {ls : Ls} {lq : Lq} {st : List Value} {h : Hp} {cb sb : Nat} {a r : Cf} {recv : Bool} {bb n : Nat} {z : Int} (hz : z.toNat = n) (hi : iok k bb z = true) (hc : call recv k pc ls lq st h cb sb bb n = some (.inr (a, r))) (o : Ot) (hcon : ∀ (h' : Hp) (j : Nat) (vs : List Value), a = start h' j vs → j < 148 → CON l j vs h' o) (K : OKC p l e R s m args below meth c D k b ad0 H0 A Q (resume r o))
    {ad : List Nat} {tys : List (ClassId × FieldType)} {ws : va_W} {H : Heap} {locs : List Loc} {lsA : Array Slot} {stA : List Value} {cells slots : Nat} (hM : ∀ (i a : Nat), ad0[i]? = some a → ad[i]? = some a) (hL : RLo b ad (NL k) ls lq lsA) (hS : RS b ad st stA) (hH : RH b ad tys h ws) (hK : va_K D vwCl tys s) (hP : va_P D vwCl ws H) (hD : va_D A ws) (hV : va_S A H0 H locs) (hcb : cells + cb ≤ MC k) (hsb : slots + sb ≤ MS k)
    (hrun : ∀ (as rest : List Value) (a0 : Nat), stA = (if recv = true then as.tail.reverse ++ .ref a0 :: rest else as.reverse ++ rest) → (recv = true → as = .ref a0 :: as.tail) →
        (recv = true → ∃ cellB : Cell, H[a0]? = some cellB ∧ cellB.vm.isStatics = false ∧ s.vm.findClass (YN bb).cls = some cellB.cls) →
        (if recv = true then as.tail.length = n else as.length = n) → csum rest ≤ 8 → cells + MC bb ≤ R.cells ∧ slots + MS bb ≤ R.slots →
        (Jvm.Cond.code (YN bb) (BC bb) (NL bb) (RT bb)).before args s = true → (Jvm.Cond.initialized (YN bb).cls).before args s = true → ((YN bb).cls ≠ "java/lang/invoke/MethodHandle" ∧ (YN bb).cls ≠ "java/lang/invoke/VarHandle") → (∀ sig, parseMethodDescriptor (YN bb).desc = some sig → n = sig.parameters.length) →
        ((RM bb).frames + 1 ≤ R.frames ∧ 8 + (NL bb + 11) + (RM bb).locals ≤ R.locals) → (∀ w ∈ (Jvm.Cond.code (YN bb) (BC bb) (NL bb) (RT bb) :: GW), ∀ (a' : Array Value) (U : State), s.WarmedH U.vm → w.before a' U = true) →
        PreS s H (va_Pc as (fun U => U.heap.size = H.size ∧ va_P D vwCl ws U.heap ∧ va_K D vwCl tys U ∧ ((∀ w ∈ NWL, va_Nw w U) ∧ SWp b (va_A ws H.size) U U.heap) ∧ va_D (fun _ => True) ws)) as →
        Met l (YN bb) (.code (YN bb) (BC bb) (NL bb) (RT bb) :: GW) (RM bb) (va_Pc as (fun U => U.heap.size = H.size ∧ va_P D vwCl ws U.heap ∧ va_K D vwCl tys U ∧ ((∀ w ∈ NWL, va_Nw w U) ∧ SWp b (va_A ws H.size) U U.heap) ∧ va_D (fun _ => True) ws)) (QG b ad o D (va_A ws H.size)) (MC bb) (MS bb) (va_A ws H.size) →
        va_Run p l e R s m args below meth c H locs cells slots (MC bb) (MS bb) (F0 m pc lsA stA) rest (QG b ad o D (va_A ws H.size) as.toArray) (va_A ws H.size)) :
    W p l e R s m args below meth c H locs cells slots Q (F0 m pc lsA stA) := by
  obtain ⟨hx, hb, hml, hown, hts, ⟨hnw, hSW, hH0⟩, hname, hA, hX, hR1, hR2, hR3, hR4⟩ := C
  obtain ⟨hb1, hrk, hcode, hplain, hcls, hmh, hvh, hnl, hini, hpar⟩ := callee_ok hi
  obtain ⟨mm, hmm, h1, h2, h3, h4, h5, h6, hxx⟩ := call_some hc
  obtain ⟨rfl, rfl⟩ := Prod.mk.inj hxx
  have hFc : ∀ q, va_A ws H.size q → A q := by
    rintro q (⟨k, e, h⟩ | h)
    · exact hD.2 k _ h
    · exact hA q (Nat.le_trans hV.1 h)
  have hcodeG : Jvm.Cond.code (YN bb) (BC bb) (NL bb) (RT bb) ∈ GW := wat_in hcode rfl
  have hws : ∀ w ∈ (Jvm.Cond.code (YN bb) (BC bb) (NL bb) (RT bb) :: GW), w ∈ GW := fun w hw => by
    rcases List.mem_cons.mp hw with rfl | hw
    · exact hcodeG
    · exact hw
  have hCON := hcon h bb (st.take mm).reverse rfl hb1 (by rw [csum_rev]; exact h3) D b ad tys ws H.size
  have hpar2 : ∀ sig, parseMethodDescriptor (YN bb).desc = some sig → n = sig.parameters.length := fun sig hsig => by
    rw [hsig] at hpar
    have e : sig.parameters.length = z.toNat := Option.some.inj hpar
    omega
  have fin : ∀ (as : List Value) (a0 : Nat), RS b ad (st.take mm).reverse as → stA = (if recv = true then as.tail.reverse ++ .ref a0 :: stA.drop mm else as.reverse ++ stA.drop mm) → (recv = true → as = .ref a0 :: as.tail) →
        (recv = true → ∃ cellB : Cell, H[a0]? = some cellB ∧ cellB.vm.isStatics = false ∧ s.vm.findClass (YN bb).cls = some cellB.cls) →
        (if recv = true then as.tail.length = n else as.length = n) → W p l e R s m args below meth c H locs cells slots Q (F0 m pc lsA stA) := by
    intro as a0 g1 g2 g3 g4 g5
    have hrest := hS.drop mm
    refine va_callG (hrun as (stA.drop mm) a0 g2 g3 g4 g5 (by rw [hrest.cs]; exact h2) ⟨by omega, by omega⟩ (hts _ hcodeG) (hts _ (wat_in hini rfl)) ⟨hmh, hvh⟩ hpar2 ⟨by show RK bb + 1 ≤ _; omega, by show 8 + (NL bb + 11) + 30 * RK bb ≤ _; omega⟩ (pay_in hts (gw_goodin hws)) (con_pre hK hP hD hnw hSW (by rw [← hH0]; exact hV) hFc) (hCON as g1 hH)) hV (fun q _ h => hFc q h) hFc (fun w ad' tys' ws' H1 locs1 hp hm hR hP hK hD' hV' => ?_)
    exact K rfl ad' tys' ws' H1 locs1 _ _ (cells + MC bb) (slots + MS bb) (fun i a h => hm i a (hM i a h)) (hL.mono hm) (hp.rs (hrest.mono hm)) hR hK hP (hD'.weaken (fun k q _ h => hFc q.1 h)) hV' (by omega) (by omega)
  cases recv with
  | false =>
    have hmn : mm = n := by simpa using hmm
    subst hmn
    refine fin (stA.take mm).reverse 0 (hS.take mm).rev (by simp) (fun q => by cases q) (fun q => by cases q) ?_
    have := hS.len
    simp
    omega
  | true =>
    have hmn : mm = n + 1 := by simpa using hmm
    subst hmn
    obtain ⟨q, r0, e1, e2⟩ := rcv_some (h6 rfl)
    have hd := hS.drop n
    rw [e1] at hd
    obtain ⟨a0, u, e3, hr, -⟩ := hd.r
    obtain ⟨t1, t2, t3⟩ := take_recv e3
    have hrc : ∃ cell : Cell, H[a0]? = some cell ∧ cell.vm.isStatics = false ∧ s.vm.findClass (RC (CK bb)) = some cell.cls := by
      rcases e2 with ⟨rfl, h11⟩ | ⟨fs, e2⟩
      · rcases hr with ⟨-, hr⟩ | ⟨hr, -⟩
        · cases hr
          rw [h11]
          exact vk_recv hSW.2.1 (i := 0) (by decide) (by rw [← hH0]; exact hV)
        · exact absurd (by decide) hr
      · obtain ⟨a2, x2, e4, had, hw2, gs, rfl, hgs⟩ := hH.get e2 hr
        cases e4
        obtain ⟨rr, hrr, -⟩ := hP q _ hw2
        have h9 : CK bb < 9 := (List.getElem?_eq_some_iff.mp hrr).1
        exact va_recv hK hP (vw_at _ h9) hw2
    refine fin (stA.take (n + 1)).reverse a0 (hS.take (n + 1)).rev ?_ ?_ (fun _ => by rw [hcls]; exact hrc) ?_
    · rw [if_pos rfl, t1, List.reverse_append]
      show stA = (stA.take n).reverse.reverse ++ _
      rw [List.reverse_reverse, t2, ← e3, List.take_append_drop]
    · intro _
      rw [t1, List.reverse_append]
      rfl
    · rw [if_pos rfl, t1, List.reverse_append]
      show (stA.take n).reverse.length = n
      rw [List.length_reverse, List.length_take]
      omega
theorem jmp_nr {pc : Nat} {o : Option Int} {f : Nat → Ef} {x : Cf × Cf} (hf : ∀ t, ¬ f t = some (.inr x)) : ¬ jmp pc o f = some (.inr x) := by
  intro h
  obtain ⟨off, -, -, e⟩ := jmp_some h
  exact hf _ e
theorem isN_nr {f g : Cf} {c : ClassFile.Cond} {a b : Int32} {x : Cf × Cf} : ¬ isN (nxt f) (nxt g) c a b = some (.inr x) := by
  intro h
  cases c <;> (simp only [isN] at h; split at h <;> cases h)
theorem popI_nr {st : List Value} {f : Int32 → List Value → Ef} {x : Cf × Cf} (hf : ∀ a t, ¬ f a t = some (.inr x)) : ¬ popI st f = some (.inr x) := fun h => by obtain ⟨a, t, -, e⟩ := popI_some h; exact hf _ _ e
theorem popII_nr {st : List Value} {f : Int32 → Int32 → List Value → Ef} {x : Cf × Cf} (hf : ∀ a b t, ¬ f a b t = some (.inr x)) : ¬ popII st f = some (.inr x) := fun h => by obtain ⟨a, b, t, -, e⟩ := popII_some h; exact hf _ _ _ e
theorem popL_nr {st : List Value} {f : Int64 → List Value → Ef} {x : Cf × Cf} (hf : ∀ a t, ¬ f a t = some (.inr x)) : ¬ popL st f = some (.inr x) := fun h => by obtain ⟨a, t, -, e⟩ := popL_some h; exact hf _ _ e
theorem popLL_nr {st : List Value} {f : Int64 → Int64 → List Value → Ef} {x : Cf × Cf} (hf : ∀ a b t, ¬ f a b t = some (.inr x)) : ¬ popLL st f = some (.inr x) := fun h => by obtain ⟨a, b, t, -, e⟩ := popLL_some h; exact hf _ _ _ e
theorem popR_nr {st : List Value} {f : Nat → List Value → Ef} {x : Cf × Cf} (hf : ∀ a t, ¬ f a t = some (.inr x)) : ¬ popR st f = some (.inr x) := fun h => by obtain ⟨a, t, -, e⟩ := popR_some h; exact hf _ _ e
theorem popV_nr {st : List Value} {f : Value → List Value → Ef} {x : Cf × Cf} (hf : ∀ a t, ¬ f a t = some (.inr x)) : ¬ popV st f = some (.inr x) := fun h => by obtain ⟨a, t, -, -, e⟩ := popV_some h; exact hf _ _ e
theorem popP_nr {st : List Value} {f : Value → List Value → Ef} {x : Cf × Cf} (hf : ∀ a t, ¬ f a t = some (.inr x)) : ¬ popP st f = some (.inr x) := fun h => by obtain ⟨a, t, -, e⟩ := popP_some h; exact hf _ _ e
theorem ldI_nr {ls : Ls} {n : Nat} {f : Int32 → Ef} {x : Cf × Cf} (hf : ∀ a, ¬ f a = some (.inr x)) : ¬ ldI ls n f = some (.inr x) := fun h => by obtain ⟨a, -, e⟩ := ldI_some h; exact hf _ e
theorem ldR_nr {ls : Ls} {n : Nat} {f : Nat → Ef} {x : Cf × Cf} (hf : ∀ a, ¬ f a = some (.inr x)) : ¬ ldR ls n f = some (.inr x) := fun h => by obtain ⟨a, -, e⟩ := ldR_some h; exact hf _ e
theorem ldL_nr {lq : Lq} {n : Nat} {f : Int64 → Ef} {x : Cf × Cf} (hf : ∀ a, ¬ f a = some (.inr x)) : ¬ ldL lq n f = some (.inr x) := fun h => by obtain ⟨a, -, e⟩ := ldL_some h; exact hf _ e
theorem stor_nr {ls : Ls} {lq : Lq} {n : Nat} {v : Value} {f : Ls → Lq → Ef} {x : Cf × Cf} (hf : ∀ a b, ¬ f a b = some (.inr x)) : ¬ stor ls lq n v f = some (.inr x) := fun h => by obtain ⟨-, e⟩ := stor_some h; exact hf _ _ e
theorem storL_nr {ls : Ls} {lq : Lq} {n : Nat} {v : Int64} {f : Ls → Lq → Ef} {x : Cf × Cf} (hf : ∀ a b, ¬ f a b = some (.inr x)) : ¬ storL ls lq n v f = some (.inr x) := fun h => by obtain ⟨-, e⟩ := storL_some h; exact hf _ _ e
theorem nxt_nr {c : Cf} {x : Cf × Cf} : ¬ nxt c = some (.inr x) := fun h => by cases h
set_option maxRecDepth 100000 in
set_option maxHeartbeats 40000000 in
theorem call_ok {p : Program} {l : Launch} {e : Env} {R : Room} {s : State} {m : MethodId} {args : Array Value} {below : List Frame} {meth : Method} {c : Code} {D : va_G} {k : Nat} {sc : Nat × (Nat → Int32)} {b : Nat → Nat} {ad0 : List Nat} {H0 : Heap} {A : Nat → Prop} {Q : State → Prop} (C : CTX p R s m args meth c k sc b H0 A)
    {pc : Nat} {ls : Ls} {lq : Lq} {st : List Value} {h : Hp} {cb sb : Nat} {a r : Cf} (E : effN sc (k, pc, ls, lq, st, h, cb, sb) = some (.inr (a, r))) (o : Ot) (hcon : ∀ (h' : Hp) (j : Nat) (vs : List Value), a = start h' j vs → j < 148 → CON l j vs h' o) (K : OKC p l e R s m args below meth c D k b ad0 H0 A Q (resume r o)) : OKC p l e R s m args below meth c D k b ad0 H0 A Q (k, pc, ls, lq, st, h, cb, sb) := by
  intro _ ad tys ws H locs lsA stA cells slots hM hL hS hH hK hP hD hV hcb hsb
  have CC := C
  obtain ⟨hx, hb, hml, hown, hts, ⟨hnw, hSW, hH0⟩, hname, hA, hX, hR1, hR2, hR3, hR4⟩ := C
  unfold effN at E
  dsimp only at E
  split at E
  · cases E
  rename_i pc0 i len a2 b2 c0 z hf
  obtain ⟨rfl, hC⟩ := fetch_chk hf
  cases i with
  | invokevirtual ix =>
    dsimp only at E
    obtain ⟨hd, hC⟩ := andT hC; have hd := of_decide_eq_true hd
    obtain ⟨hC, hw3⟩ := andT hC; obtain ⟨hC, hw2⟩ := andT hC; obtain ⟨hC, hw1⟩ := andT hC; obtain ⟨hC, hi⟩ := andT hC; obtain ⟨hl, h0⟩ := andT hC; obtain rfl := eq_of_beq hl
    refine call_gen CC rfl hi E o hcon K hM hL hS hH hK hP hD hV hcb hsb (fun as rest a0 g1 g2 g3 g4 g5 g6 g7 g8 g9 g10 g11 g12 g13 g14 => ?_)
    have g2 := g2 rfl
    rw [if_pos rfl] at g1 g4
    rw [g2] at g13 g14 ⊢
    exact va_runV (As := as.tail) (rest := rest) ⟨hx, hb, hml, hown, hts⟩ g14 ⟨⟨rfl, rfl, g11.1, g11.2, g12, List.mem_cons_self, g7, g8, g9, g10, hts _ (wat_in hw1 rfl)⟩, hts _ (wat_in hw2 rfl), hts _ (wat_in hw3 rfl)⟩ ⟨g13.1, g3 rfl, g13.2⟩ rfl g4 hL.2.1 g1 (lv_room g5) hd g6
  | invokestatic ix =>
    dsimp only at E
    split at E
    · cases E
    rename_i h99
    split at E
    · exact absurd E (popII_nr (fun _ _ _ q => by (try dsimp only at q); split at q <;> cases q))
    rename_i h7
    split at E
    · exact absurd E (popII_nr (fun _ _ _ q => by (try dsimp only at q); split at q <;> cases q))
    rename_i h6
    obtain ⟨hd, hC⟩ := andT hC; have hd := of_decide_eq_true hd
    obtain ⟨hl, hC⟩ := andT hC; obtain rfl := eq_of_beq hl
    rcases Bool.or_eq_true_iff.mp hC with hC | hC
    · rcases Bool.or_eq_true_iff.mp hC with hC | hC
      · rcases Bool.or_eq_true_iff.mp hC with hC | hC
        · exact absurd (eq_of_beq hC) h99
        · exact absurd (eq_of_beq (andT hC).1) h6
      · exact absurd (eq_of_beq (andT hC).1) h7
    obtain ⟨hC, hk⟩ := andT hC; obtain ⟨hi, hw2⟩ := andT hC
    refine call_gen CC rfl hi E o hcon K hM hL hS hH hK hP hD hV hcb hsb (fun as rest a0 g1 g2 g3 g4 g5 g6 g7 g8 g9 g10 g11 g12 g13 g14 => ?_)
    rw [if_neg (by decide)] at g1 g4
    rcases Bool.or_eq_true_iff.mp hk with hk | hk
    · obtain ⟨-, hw1⟩ := andT hk
      exact va_runS (As := as) (rest := rest) ⟨hx, hb, hml, hown, hts⟩ g14 ⟨⟨rfl, rfl, g11.1, g11.2, g12, List.mem_cons_self, g7, g8, g9, g10, hts _ (wat_in hw1 rfl)⟩, hts _ (wat_in hw2 rfl)⟩ g13 rfl g4 hL.2.1 g1 (lv_room g5) hd g6
    · obtain ⟨-, hw1⟩ := andT hk
      have hn1 := hnw _ (List.mem_of_getElem? (of_decide_eq_true hw1))
      exact va_runSN (host := "MirrorClerks") (As := as) (rest := rest) ⟨hx, hb, hml, hown, hts⟩ g14 ⟨⟨⟨rfl, rfl, g11.1, g11.2, g12, List.mem_cons_self⟩, g7, g8, g9, g10, va_Nw.use rfl hn1⟩, hts _ (wat_in hw2 rfl), trivial⟩ g13 rfl g4 hL.2.1 g1 (lv_room g5) hd g6
  | invokespecial ix =>
    dsimp only at E
    split at E
    · exact absurd E (popR_nr (fun _ _ q => by (try dsimp only at q); split at q <;> cases q))
    rename_i h6
    obtain ⟨hd, hC⟩ := andT hC; have hd := of_decide_eq_true hd
    obtain ⟨hl, hC⟩ := andT hC; obtain rfl := eq_of_beq hl
    rcases Bool.or_eq_true_iff.mp hC with hC | hC
    · exact absurd (eq_of_beq (andT hC).1) h6
    obtain ⟨hC, hk⟩ := andT hC; obtain ⟨hC, hw2⟩ := andT hC; obtain ⟨hC, hrt⟩ := andT hC; obtain ⟨hi, hnm⟩ := andT hC
    have hrt := of_decide_eq_true hrt
    have hnm := of_decide_eq_true hnm
    refine call_gen CC rfl hi E o hcon K hM hL hS hH hK hP hD hV hcb hsb (fun as rest a0 g1 g2 g3 g4 g5 g6 g7 g8 g9 g10 g11 g12 g13 g14 => ?_)
    have g2 := g2 rfl
    rw [if_pos rfl] at g1 g4
    rw [g2] at g13 g14 ⊢
    rw [hrt] at g7 g12 g14
    rcases Bool.or_eq_true_iff.mp hk with hk | hk
    · obtain ⟨-, hw1⟩ := andT hk
      exact va_runI (As := as.tail) (rest := rest) ⟨hx, hb, hml, hown, hts⟩ g14 ⟨⟨rfl, rfl, g11.1, g11.2, g12, List.mem_cons_self, g7, g8, g9, g10, hts _ (wat_in hw1 rfl)⟩, hnm, hts _ (wat_in hw2 rfl)⟩ g13 rfl g4 hL.2.1 g1 (lv_room g5) hd g6
    · obtain ⟨-, hw1⟩ := andT hk
      have hn1 := hnw _ (List.mem_of_getElem? (of_decide_eq_true hw1))
      exact va_runIN (host := "MirrorClerks") (As := as.tail) (rest := rest) ⟨hx, hb, hml, hown, hts⟩ g14 ⟨⟨⟨rfl, rfl, g11.1, g11.2, g12, List.mem_cons_self⟩, g7, g8, g9, g10, va_Nw.use rfl hn1⟩, hnm, hts _ (wat_in hw2 rfl)⟩ g13 rfl g4 hL.2.1 g1 (lv_room g5) hd g6
  | getfield ix =>
    exact absurd E (popR_nr (fun _ _ q => by (try dsimp only at q); split at q <;> (try split at q) <;> (try split at q) <;> (try split at q) <;> cases q))
  | putfield ix =>
    exact absurd E (popP_nr (fun _ _ => popR_nr (fun _ _ q => by (try dsimp only at q); split at q <;> (try split at q) <;> (try split at q) <;> cases q)))
  | iaload =>
    exact absurd E (popI_nr (fun _ _ => popR_nr (fun _ _ q => by (try dsimp only at q); split at q <;> (try split at q) <;> (try split at q) <;> cases q)))
  | iastore =>
    exact absurd E (popII_nr (fun _ _ _ => popR_nr (fun _ _ q => by (try dsimp only at q); split at q <;> (try split at q) <;> (try split at q) <;> cases q)))
  | arraylength =>
    exact absurd E (popR_nr (fun _ _ q => by (try dsimp only at q); split at q <;> (try split at q) <;> (try split at q) <;> cases q))
  | baload =>
    exact absurd E (popI_nr (fun _ _ => popR_nr (fun _ _ q => by (try dsimp only at q); split at q <;> cases q)))
  | ldc ix => exact absurd E (fun q => by (try dsimp only at q); split at q <;> cases q)
  | new ix => exact absurd E (fun q => by (try dsimp only at q); split at q <;> cases q)
  | newarray t => exact absurd E (popI_nr (fun _ _ q => by (try dsimp only at q); split at q <;> cases q))
  | idiv => exact absurd E (popII_nr (fun _ _ _ q => by (try dsimp only at q); split at q <;> cases q))
  | irem => exact absurd E (popII_nr (fun _ _ _ q => by (try dsimp only at q); split at q <;> cases q))
  | ifCond cn off => exact absurd E (popI_nr (fun _ _ => isN_nr))
  | if_icmp cn off => exact absurd E (popII_nr (fun _ _ _ => isN_nr))
  | tableswitch d lo hi offs => exact absurd E (popI_nr (fun _ _ => jmp_nr (fun _ => nxt_nr)))
  | lookupswitch d ps => exact absurd E (popI_nr (fun _ _ => jmp_nr (fun _ => nxt_nr)))
  | _ => exfalso; first
    | exact nxt_nr E
    | exact popII_nr (fun _ _ _ => nxt_nr) E
    | exact popI_nr (fun _ _ => nxt_nr) E
    | exact popL_nr (fun _ _ => nxt_nr) E
    | exact popLL_nr (fun _ _ _ => nxt_nr) E
    | exact popV_nr (fun _ _ => nxt_nr) E
    | exact popV_nr (fun _ _ => popV_nr (fun _ _ => nxt_nr)) E
    | exact ldI_nr (fun _ => nxt_nr) E
    | exact ldR_nr (fun _ => nxt_nr) E
    | exact ldL_nr (fun _ => nxt_nr) E
    | exact popI_nr (fun _ _ => stor_nr (fun _ _ => nxt_nr)) E
    | exact popR_nr (fun _ _ => stor_nr (fun _ _ => nxt_nr)) E
    | exact popL_nr (fun _ _ => storL_nr (fun _ _ => nxt_nr)) E
    | exact ldI_nr (fun _ => stor_nr (fun _ _ => nxt_nr)) E
    | cases E
