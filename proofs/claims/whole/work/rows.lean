section
-- ===== PART A: goes FIRST, ahead of the names: the tables' words, and 'selects' of the private methods out of them =====
/-- a private method of a class that the tables say can be made, by its rows of tables_1 -/
def lw_okq (q : MethodName × Nat) : Prop := (q.1.cls ≠ "java/lang/invoke/MethodHandle" ∧ q.1.cls ≠ "java/lang/invoke/VarHandle") ∧ Cond.instantiable q.1.cls q.2 ∈ tables_1 ∧ Cond.privateMethod q.1 ∈ tables_1 ∧ Cond.instanceMethod q.1 ∈ tables_1
theorem lw_p0 : lw_okq (⟨"MirrorClerks", "clerksSeeing", "(IZ)I"⟩, 11) := ⟨⟨by decide +kernel, by decide +kernel⟩, List.mem_of_getElem? (i := 18) (by decide +kernel), List.mem_of_getElem? (i := 383) (by decide +kernel), List.mem_of_getElem? (i := 384) (by decide +kernel)⟩
theorem lw_p1 : lw_okq (⟨"MirrorClerks$Sight", "comeTo", "(I)V"⟩, 3) := ⟨⟨by decide +kernel, by decide +kernel⟩, List.mem_of_getElem? (i := 110) (by decide +kernel), List.mem_of_getElem? (i := 400) (by decide +kernel), List.mem_of_getElem? (i := 401) (by decide +kernel)⟩
theorem lw_p2 : lw_okq (⟨"MirrorClerks", "seenByAny", "(I)I"⟩, 11) := ⟨⟨by decide +kernel, by decide +kernel⟩, List.mem_of_getElem? (i := 18) (by decide +kernel), List.mem_of_getElem? (i := 482) (by decide +kernel), List.mem_of_getElem? (i := 483) (by decide +kernel)⟩
theorem lw_p3 : lw_okq (⟨"MirrorClerks$Walk", "choose", "(LMirrorClerks$House;II)V"⟩, 2) := ⟨⟨by decide +kernel, by decide +kernel⟩, List.mem_of_getElem? (i := 129) (by decide +kernel), List.mem_of_getElem? (i := 499) (by decide +kernel), List.mem_of_getElem? (i := 500) (by decide +kernel)⟩
theorem lw_p4 : lw_okq (⟨"MirrorClerks", "seenWithPost", "(II)I"⟩, 11) := ⟨⟨by decide +kernel, by decide +kernel⟩, List.mem_of_getElem? (i := 18) (by decide +kernel), List.mem_of_getElem? (i := 526) (by decide +kernel), List.mem_of_getElem? (i := 527) (by decide +kernel)⟩
theorem lw_p5 : lw_okq (⟨"MirrorClerks", "fewestTilted", "(I)I"⟩, 11) := ⟨⟨by decide +kernel, by decide +kernel⟩, List.mem_of_getElem? (i := 18) (by decide +kernel), List.mem_of_getElem? (i := 542) (by decide +kernel), List.mem_of_getElem? (i := 543) (by decide +kernel)⟩
theorem lw_p6 : lw_okq (⟨"MirrorClerks$Rows", "goOn", "(LMirrorClerks$House;II)V"⟩, 2) := ⟨⟨by decide +kernel, by decide +kernel⟩, List.mem_of_getElem? (i := 142) (by decide +kernel), List.mem_of_getElem? (i := 574) (by decide +kernel), List.mem_of_getElem? (i := 575) (by decide +kernel)⟩
theorem lw_p7 : lw_okq (⟨"MirrorClerks$Days", "goByDraw", "(LMirrorClerks$House;II)V"⟩, 3) := ⟨⟨by decide +kernel, by decide +kernel⟩, List.mem_of_getElem? (i := 155) (by decide +kernel), List.mem_of_getElem? (i := 601) (by decide +kernel), List.mem_of_getElem? (i := 602) (by decide +kernel)⟩
theorem lw_p8 : lw_okq (⟨"MirrorClerksModel", "faultOf", "()I"⟩, 31) := ⟨⟨by decide +kernel, by decide +kernel⟩, List.mem_of_getElem? (i := 646) (by decide +kernel), List.mem_of_getElem? (i := 762) (by decide +kernel), List.mem_of_getElem? (i := 763) (by decide +kernel)⟩
theorem lw_p9 : lw_okq (⟨"MirrorClerksModel", "floors", "()I"⟩, 31) := ⟨⟨by decide +kernel, by decide +kernel⟩, List.mem_of_getElem? (i := 646) (by decide +kernel), List.mem_of_getElem? (i := 777) (by decide +kernel), List.mem_of_getElem? (i := 778) (by decide +kernel)⟩
theorem lw_p10 : lw_okq (⟨"MirrorClerksModel", "isCell", "(I)Z"⟩, 31) := ⟨⟨by decide +kernel, by decide +kernel⟩, List.mem_of_getElem? (i := 646) (by decide +kernel), List.mem_of_getElem? (i := 785) (by decide +kernel), List.mem_of_getElem? (i := 786) (by decide +kernel)⟩
theorem lw_p11 : lw_okq (⟨"MirrorClerksModel", "lacks", "()Z"⟩, 31) := ⟨⟨by decide +kernel, by decide +kernel⟩, List.mem_of_getElem? (i := 646) (by decide +kernel), List.mem_of_getElem? (i := 790) (by decide +kernel), List.mem_of_getElem? (i := 791) (by decide +kernel)⟩
theorem lw_p12 : lw_okq (⟨"MirrorClerksModel", "tellCell", "(II)I"⟩, 31) := ⟨⟨by decide +kernel, by decide +kernel⟩, List.mem_of_getElem? (i := 646) (by decide +kernel), List.mem_of_getElem? (i := 794) (by decide +kernel), List.mem_of_getElem? (i := 795) (by decide +kernel)⟩
theorem lw_p13 : lw_okq (⟨"MirrorClerksModel", "laySight", "(II)V"⟩, 31) := ⟨⟨by decide +kernel, by decide +kernel⟩, List.mem_of_getElem? (i := 646) (by decide +kernel), List.mem_of_getElem? (i := 798) (by decide +kernel), List.mem_of_getElem? (i := 799) (by decide +kernel)⟩
theorem lw_p14 : lw_okq (⟨"MirrorClerksModel", "turned", "(II)I"⟩, 31) := ⟨⟨by decide +kernel, by decide +kernel⟩, List.mem_of_getElem? (i := 646) (by decide +kernel), List.mem_of_getElem? (i := 805) (by decide +kernel), List.mem_of_getElem? (i := 806) (by decide +kernel)⟩
theorem lw_p15 : lw_okq (⟨"MirrorClerksModel", "isClerk", "(I)Z"⟩, 31) := ⟨⟨by decide +kernel, by decide +kernel⟩, List.mem_of_getElem? (i := 646) (by decide +kernel), List.mem_of_getElem? (i := 830) (by decide +kernel), List.mem_of_getElem? (i := 831) (by decide +kernel)⟩
def lw_privs_1 : List (MethodName × Nat) := [(⟨"MirrorClerks", "clerksSeeing", "(IZ)I"⟩, 11), (⟨"MirrorClerks$Sight", "comeTo", "(I)V"⟩, 3), (⟨"MirrorClerks", "seenByAny", "(I)I"⟩, 11), (⟨"MirrorClerks$Walk", "choose", "(LMirrorClerks$House;II)V"⟩, 2), (⟨"MirrorClerks", "seenWithPost", "(II)I"⟩, 11), (⟨"MirrorClerks", "fewestTilted", "(I)I"⟩, 11), (⟨"MirrorClerks$Rows", "goOn", "(LMirrorClerks$House;II)V"⟩, 2), (⟨"MirrorClerks$Days", "goByDraw", "(LMirrorClerks$House;II)V"⟩, 3), (⟨"MirrorClerksModel", "faultOf", "()I"⟩, 31), (⟨"MirrorClerksModel", "floors", "()I"⟩, 31), (⟨"MirrorClerksModel", "isCell", "(I)Z"⟩, 31), (⟨"MirrorClerksModel", "lacks", "()Z"⟩, 31), (⟨"MirrorClerksModel", "tellCell", "(II)I"⟩, 31), (⟨"MirrorClerksModel", "laySight", "(II)V"⟩, 31), (⟨"MirrorClerksModel", "turned", "(II)I"⟩, 31), (⟨"MirrorClerksModel", "isClerk", "(I)Z"⟩, 31)]
theorem lw_r1 : ∀ q ∈ lw_privs_1, lw_okq q := List.forall_mem_cons.mpr ⟨lw_p0, List.forall_mem_cons.mpr ⟨lw_p1, List.forall_mem_cons.mpr ⟨lw_p2, List.forall_mem_cons.mpr ⟨lw_p3, List.forall_mem_cons.mpr ⟨lw_p4, List.forall_mem_cons.mpr ⟨lw_p5, List.forall_mem_cons.mpr ⟨lw_p6, List.forall_mem_cons.mpr ⟨lw_p7, List.forall_mem_cons.mpr ⟨lw_p8, List.forall_mem_cons.mpr ⟨lw_p9, List.forall_mem_cons.mpr ⟨lw_p10, List.forall_mem_cons.mpr ⟨lw_p11, List.forall_mem_cons.mpr ⟨lw_p12, List.forall_mem_cons.mpr ⟨lw_p13, List.forall_mem_cons.mpr ⟨lw_p14, List.forall_mem_cons.mpr ⟨lw_p15, fun _ h => absurd h List.not_mem_nil⟩⟩⟩⟩⟩⟩⟩⟩⟩⟩⟩⟩⟩⟩⟩⟩
theorem lw_p16 : lw_okq (⟨"MirrorClerksModel", "tellClerk", "(II)I"⟩, 31) := ⟨⟨by decide +kernel, by decide +kernel⟩, List.mem_of_getElem? (i := 646) (by decide +kernel), List.mem_of_getElem? (i := 838) (by decide +kernel), List.mem_of_getElem? (i := 839) (by decide +kernel)⟩
theorem lw_p17 : lw_okq (⟨"MirrorClerksModel", "isPerson", "(I)Z"⟩, 31) := ⟨⟨by decide +kernel, by decide +kernel⟩, List.mem_of_getElem? (i := 646) (by decide +kernel), List.mem_of_getElem? (i := 850) (by decide +kernel), List.mem_of_getElem? (i := 851) (by decide +kernel)⟩
theorem lw_p18 : lw_okq (⟨"MirrorClerksModel", "stepTo", "(II)I"⟩, 31) := ⟨⟨by decide +kernel, by decide +kernel⟩, List.mem_of_getElem? (i := 646) (by decide +kernel), List.mem_of_getElem? (i := 858) (by decide +kernel), List.mem_of_getElem? (i := 859) (by decide +kernel)⟩
theorem lw_p19 : lw_okq (⟨"MirrorClerksModel", "seenBits", "()I"⟩, 31) := ⟨⟨by decide +kernel, by decide +kernel⟩, List.mem_of_getElem? (i := 646) (by decide +kernel), List.mem_of_getElem? (i := 862) (by decide +kernel), List.mem_of_getElem? (i := 863) (by decide +kernel)⟩
theorem lw_p20 : lw_okq (⟨"MirrorClerksModel", "layFar", "(I)V"⟩, 31) := ⟨⟨by decide +kernel, by decide +kernel⟩, List.mem_of_getElem? (i := 646) (by decide +kernel), List.mem_of_getElem? (i := 871) (by decide +kernel), List.mem_of_getElem? (i := 872) (by decide +kernel)⟩
theorem lw_p21 : lw_okq (⟨"MirrorClerksModel", "postOf", "(I)I"⟩, 31) := ⟨⟨by decide +kernel, by decide +kernel⟩, List.mem_of_getElem? (i := 646) (by decide +kernel), List.mem_of_getElem? (i := 880) (by decide +kernel), List.mem_of_getElem? (i := 881) (by decide +kernel)⟩
theorem lw_p22 : lw_okq (⟨"MirrorClerksModel", "tiltOf", "(I)I"⟩, 31) := ⟨⟨by decide +kernel, by decide +kernel⟩, List.mem_of_getElem? (i := 646) (by decide +kernel), List.mem_of_getElem? (i := 891) (by decide +kernel), List.mem_of_getElem? (i := 892) (by decide +kernel)⟩
theorem lw_p23 : lw_okq (⟨"MirrorClerksModel", "change", "(I)V"⟩, 31) := ⟨⟨by decide +kernel, by decide +kernel⟩, List.mem_of_getElem? (i := 646) (by decide +kernel), List.mem_of_getElem? (i := 898) (by decide +kernel), List.mem_of_getElem? (i := 899) (by decide +kernel)⟩
theorem lw_p24 : lw_okq (⟨"MirrorClerksModel", "fitsOf", "(II)I"⟩, 31) := ⟨⟨by decide +kernel, by decide +kernel⟩, List.mem_of_getElem? (i := 646) (by decide +kernel), List.mem_of_getElem? (i := 915) (by decide +kernel), List.mem_of_getElem? (i := 916) (by decide +kernel)⟩
theorem lw_p25 : lw_okq (⟨"MirrorClerksModel", "draw", "(I)I"⟩, 31) := ⟨⟨by decide +kernel, by decide +kernel⟩, List.mem_of_getElem? (i := 646) (by decide +kernel), List.mem_of_getElem? (i := 927) (by decide +kernel), List.mem_of_getElem? (i := 928) (by decide +kernel)⟩
theorem lw_p26 : lw_okq (⟨"MirrorClerksModel", "enteredAll", "()I"⟩, 31) := ⟨⟨by decide +kernel, by decide +kernel⟩, List.mem_of_getElem? (i := 646) (by decide +kernel), List.mem_of_getElem? (i := 939) (by decide +kernel), List.mem_of_getElem? (i := 940) (by decide +kernel)⟩
theorem lw_p27 : lw_okq (⟨"MirrorClerksModel", "countOf", "(I)I"⟩, 31) := ⟨⟨by decide +kernel, by decide +kernel⟩, List.mem_of_getElem? (i := 646) (by decide +kernel), List.mem_of_getElem? (i := 951) (by decide +kernel), List.mem_of_getElem? (i := 952) (by decide +kernel)⟩
theorem lw_p28 : lw_okq (⟨"MirrorClerksModel", "say", "(J)V"⟩, 31) := ⟨⟨by decide +kernel, by decide +kernel⟩, List.mem_of_getElem? (i := 646) (by decide +kernel), List.mem_of_getElem? (i := 960) (by decide +kernel), List.mem_of_getElem? (i := 961) (by decide +kernel)⟩
def lw_privs_2 : List (MethodName × Nat) := [(⟨"MirrorClerksModel", "tellClerk", "(II)I"⟩, 31), (⟨"MirrorClerksModel", "isPerson", "(I)Z"⟩, 31), (⟨"MirrorClerksModel", "stepTo", "(II)I"⟩, 31), (⟨"MirrorClerksModel", "seenBits", "()I"⟩, 31), (⟨"MirrorClerksModel", "layFar", "(I)V"⟩, 31), (⟨"MirrorClerksModel", "postOf", "(I)I"⟩, 31), (⟨"MirrorClerksModel", "tiltOf", "(I)I"⟩, 31), (⟨"MirrorClerksModel", "change", "(I)V"⟩, 31), (⟨"MirrorClerksModel", "fitsOf", "(II)I"⟩, 31), (⟨"MirrorClerksModel", "draw", "(I)I"⟩, 31), (⟨"MirrorClerksModel", "enteredAll", "()I"⟩, 31), (⟨"MirrorClerksModel", "countOf", "(I)I"⟩, 31), (⟨"MirrorClerksModel", "say", "(J)V"⟩, 31)]
theorem lw_r2 : ∀ q ∈ lw_privs_2, lw_okq q := List.forall_mem_cons.mpr ⟨lw_p16, List.forall_mem_cons.mpr ⟨lw_p17, List.forall_mem_cons.mpr ⟨lw_p18, List.forall_mem_cons.mpr ⟨lw_p19, List.forall_mem_cons.mpr ⟨lw_p20, List.forall_mem_cons.mpr ⟨lw_p21, List.forall_mem_cons.mpr ⟨lw_p22, List.forall_mem_cons.mpr ⟨lw_p23, List.forall_mem_cons.mpr ⟨lw_p24, List.forall_mem_cons.mpr ⟨lw_p25, List.forall_mem_cons.mpr ⟨lw_p26, List.forall_mem_cons.mpr ⟨lw_p27, List.forall_mem_cons.mpr ⟨lw_p28, fun _ h => absurd h List.not_mem_nil⟩⟩⟩⟩⟩⟩⟩⟩⟩⟩⟩⟩⟩
def lw_privs : List (MethodName × Nat) := lw_privs_1 ++ (lw_privs_2)
def lw_tbl : List Cond := k2_sels lw_privs ++ tables_1
theorem lw_privs_ok : ∀ q ∈ lw_privs, lw_okq q := by
  show ∀ q ∈ lw_privs_1 ++ (lw_privs_2), lw_okq q
  exact List.forall_mem_append.mpr ⟨lw_r1, lw_r2⟩
/-! ===== BEGIN words of one list among another's, by their places ===== -/
theorem goodIn_r {big : List Cond} (ws : List Cond) (ps : List Nat) (hp : ws = ps.filterMap (fun i => big[i]?)) (h : ws.all goodWord = true) : GoodIn big ws := by
  intro w hw
  have h1 := List.all_eq_true.mp h w hw
  rw [hp] at hw
  obtain ⟨i, -, hi⟩ := List.mem_filterMap.mp hw
  have hm : w ∈ big := by first | exact List.mem_of_getElem? hi | exact List.getElem?_mem hi
  exact ⟨hm, good_of_word h1⟩
theorem goodIn_app {big a b : List Cond} (ha : GoodIn big a) (hb : GoodIn big b) : GoodIn big (a ++ b) := fun w h => (List.mem_append.mp h).elim (ha w) (hb w)
theorem goodIn_ca {big a b : List Cond} {c : Cond} (ha : GoodIn big (c :: a)) (hb : GoodIn big b) : GoodIn big (c :: (a ++ b)) := fun w h => (List.mem_cons.mp h).elim (fun e => ha w (List.mem_cons.mpr (Or.inl e))) (fun h => (List.mem_append.mp h).elim (fun h => ha w (List.mem_cons.mpr (Or.inr h))) (hb w))
theorem goodIn_sub {big ws : List Cond} (hm : ∀ w ∈ ws, w ∈ big) (h : ws.all goodWord = true) : GoodIn big ws := fun w hw => ⟨hm w hw, good_of_word (List.all_eq_true.mp h w hw)⟩
/-! ===== END ===== -/

/-! ===== BEGIN printed: names, fields, word lists, decode rows ===== -/
def RX0 : String := "MirrorClerks$Days"
def TX0 : u_T := fun k => match k with
  | 0 => ("MirrorClerks$Days", "cells", "[I", true)
  | 1 => ("MirrorClerks$Days", "entries", "I", false)
  | _ => ("MirrorClerks$Days", "seed", "I", false)
def tyX0 : Nat → FieldType := fun k => match k with
  | 0 => .array .int
  | 1 => .int
  | _ => .int
abbrev wsX00 : List Cond := u_ws RX0 TX0 3
theorem nmX0 : ∀ a, a < 3 → ∀ b, b < 3 → a ≠ b → (TX0 a).2.1 ≠ (TX0 b).2.1 := by decide +kernel
theorem tyX0_ok : ∀ k, k < 3 → parseFieldDescriptor (TX0 k).2.2.1 = some (tyX0 k) := by decide +kernel
abbrev cX0_init : ByteArray := prog_2_method_1_code
def yX0_init : MethodName := ⟨RX0, "<init>", "()V"⟩
abbrev cX0_reckon : ByteArray := prog_2_method_2_code
def yX0_reckon : MethodName := ⟨RX0, "reckon", "(LMirrorClerks$House;LMirrorClerks$Scene;III)V"⟩
abbrev cX0_goByDraw : ByteArray := prog_2_method_3_code
def yX0_goByDraw : MethodName := ⟨RX0, "goByDraw", "(LMirrorClerks$House;II)V"⟩
def RX1 : String := "MirrorClerks$House"
def TX1 : u_T := fun k => match k with
  | 0 => ("MirrorClerks$House", "signs", "[I", true)
  | 1 => ("MirrorClerks$House", "stands", "Z", false)
  | _ => ("MirrorClerks$House", "depth", "I", false)
def tyX1 : Nat → FieldType := fun k => match k with
  | 0 => .array .int
  | 1 => .boolean
  | _ => .int
abbrev wsX10 : List Cond := u_ws RX1 TX1 3
theorem nmX1 : ∀ a, a < 3 → ∀ b, b < 3 → a ≠ b → (TX1 a).2.1 ≠ (TX1 b).2.1 := by decide +kernel
theorem tyX1_ok : ∀ k, k < 3 → parseFieldDescriptor (TX1 k).2.2.1 = some (tyX1 k) := by decide +kernel
abbrev cX1_init : ByteArray := prog_3_method_1_code
def yX1_init : MethodName := ⟨RX1, "<init>", "()V"⟩
abbrev cX1_read : ByteArray := prog_3_method_2_code
def yX1_read : MethodName := ⟨RX1, "read", "(LMirrorClerks$Page;)V"⟩
abbrev cX1_has : ByteArray := prog_3_method_3_code
def yX1_has : MethodName := ⟨RX1, "has", "(I)Z"⟩
abbrev cX1_signAt : ByteArray := prog_3_method_4_code
def yX1_signAt : MethodName := ⟨RX1, "signAt", "(I)I"⟩
abbrev cX1_isFloor : ByteArray := prog_3_method_5_code
def yX1_isFloor : MethodName := ⟨RX1, "isFloor", "(I)Z"⟩
abbrev cX1_floors : ByteArray := prog_3_method_6_code
def yX1_floors : MethodName := ⟨RX1, "floors", "()I"⟩
abbrev cX1_tiltable : ByteArray := prog_3_method_7_code
def yX1_tiltable : MethodName := ⟨RX1, "tiltable", "()I"⟩
abbrev cX1_floorBeside : ByteArray := prog_3_method_8_code
def yX1_floorBeside : MethodName := ⟨RX1, "floorBeside", "(II)I"⟩
abbrev cX1_beside : ByteArray := prog_3_method_9_code
def yX1_beside : MethodName := ⟨RX1, "beside", "(II)I"⟩
def RX2 : String := "MirrorClerks$Page"
def TX2 : u_T := fun k => match k with
  | 0 => ("MirrorClerks$Page", "codes", "[I", true)
  | _ => ("MirrorClerks$Page", "letters", "I", false)
def tyX2 : Nat → FieldType := fun k => match k with
  | 0 => .array .int
  | _ => .int
abbrev wsX20 : List Cond := u_ws RX2 TX2 2
theorem nmX2 : ∀ a, a < 2 → ∀ b, b < 2 → a ≠ b → (TX2 a).2.1 ≠ (TX2 b).2.1 := by decide +kernel
theorem tyX2_ok : ∀ k, k < 2 → parseFieldDescriptor (TX2 k).2.2.1 = some (tyX2 k) := by decide +kernel
abbrev cX2_init : ByteArray := prog_4_method_1_code
def yX2_init : MethodName := ⟨RX2, "<init>", "()V"⟩
abbrev cX2_add : ByteArray := prog_4_method_2_code
def yX2_add : MethodName := ⟨RX2, "add", "(I)V"⟩
abbrev cX2_empty : ByteArray := prog_4_method_3_code
def yX2_empty : MethodName := ⟨RX2, "empty", "()V"⟩
abbrev cX2_isHouse : ByteArray := prog_4_method_4_code
def yX2_isHouse : MethodName := ⟨RX2, "isHouse", "()Z"⟩
abbrev cX2_firstFault : ByteArray := prog_4_method_5_code
def yX2_firstFault : MethodName := ⟨RX2, "firstFault", "()I"⟩
abbrev cX2_isDue : ByteArray := prog_4_method_6_code
def yX2_isDue : MethodName := ⟨RX2, "isDue", "(II)Z"⟩
abbrev cX2_signAt : ByteArray := prog_4_method_7_code
def yX2_signAt : MethodName := ⟨RX2, "signAt", "(I)I"⟩
abbrev cX2_depth : ByteArray := prog_4_method_8_code
def yX2_depth : MethodName := ⟨RX2, "depth", "()I"⟩
abbrev cX2_signOf : ByteArray := prog_4_method_9_code
def yX2_signOf : MethodName := ⟨RX2, "signOf", "(I)I"⟩
def RX3 : String := "MirrorClerks$Rows"
def TX3 : u_T := fun k => match k with
  | 0 => ("MirrorClerks$Rows", "ending", "[I", true)
  | _ => ("MirrorClerks$Rows", "longer", "[I", true)
def tyX3 : Nat → FieldType := fun k => match k with
  | 0 => .array .int
  | _ => .array .int
abbrev wsX30 : List Cond := u_ws RX3 TX3 2
theorem nmX3 : ∀ a, a < 2 → ∀ b, b < 2 → a ≠ b → (TX3 a).2.1 ≠ (TX3 b).2.1 := by decide +kernel
theorem tyX3_ok : ∀ k, k < 2 → parseFieldDescriptor (TX3 k).2.2.1 = some (tyX3 k) := by decide +kernel
abbrev cX3_init : ByteArray := prog_5_method_1_code
def yX3_init : MethodName := ⟨RX3, "<init>", "()V"⟩
abbrev cX3_reckon : ByteArray := prog_5_method_2_code
def yX3_reckon : MethodName := ⟨RX3, "reckon", "(LMirrorClerks$House;LMirrorClerks$Scene;II)V"⟩
abbrev cX3_number : ByteArray := prog_5_method_3_code
def yX3_number : MethodName := ⟨RX3, "number", "()I"⟩
abbrev cX3_ends : ByteArray := prog_5_method_4_code
def yX3_ends : MethodName := ⟨RX3, "ends", "()I"⟩
abbrev cX3_goOn : ByteArray := prog_5_method_5_code
def yX3_goOn : MethodName := ⟨RX3, "goOn", "(LMirrorClerks$House;II)V"⟩
def RX4 : String := "MirrorClerks$Scene"
def TX4 : u_T := fun k => match k with
  | 0 => ("MirrorClerks$Scene", "clerkCells", "[I", true)
  | 1 => ("MirrorClerks$Scene", "clerkWays", "[I", true)
  | 2 => ("MirrorClerks$Scene", "personCells", "[I", true)
  | 3 => ("MirrorClerks$Scene", "entries", "[I", true)
  | 4 => ("MirrorClerks$Scene", "told", "[I", true)
  | 5 => ("MirrorClerks$Scene", "clerks", "I", false)
  | 6 => ("MirrorClerks$Scene", "people", "I", false)
  | 7 => ("MirrorClerks$Scene", "steps", "I", false)
  | _ => ("MirrorClerks$Scene", "isDusk", "Z", false)
def tyX4 : Nat → FieldType := fun k => match k with
  | 0 => .array .int
  | 1 => .array .int
  | 2 => .array .int
  | 3 => .array .int
  | 4 => .array .int
  | 5 => .int
  | 6 => .int
  | 7 => .int
  | _ => .boolean
abbrev wsX40 : List Cond := u_ws RX4 TX4 9
theorem nmX4 : ∀ a, a < 9 → ∀ b, b < 9 → a ≠ b → (TX4 a).2.1 ≠ (TX4 b).2.1 := by decide +kernel
theorem tyX4_ok : ∀ k, k < 9 → parseFieldDescriptor (TX4 k).2.2.1 = some (tyX4 k) := by decide +kernel
abbrev cX4_init : ByteArray := prog_6_method_1_code
def yX4_init : MethodName := ⟨RX4, "<init>", "()V"⟩
abbrev cX4_empty : ByteArray := prog_6_method_2_code
def yX4_empty : MethodName := ⟨RX4, "empty", "()V"⟩
abbrev cX4_takeFrom : ByteArray := prog_6_method_3_code
def yX4_takeFrom : MethodName := ⟨RX4, "takeFrom", "(LMirrorClerks$Scene;)V"⟩
abbrev cX4_hasClerk : ByteArray := prog_6_method_4_code
def yX4_hasClerk : MethodName := ⟨RX4, "hasClerk", "(I)Z"⟩
abbrev cX4_hasPerson : ByteArray := prog_6_method_5_code
def yX4_hasPerson : MethodName := ⟨RX4, "hasPerson", "(I)Z"⟩
abbrev cX4_addClerk : ByteArray := prog_6_method_6_code
def yX4_addClerk : MethodName := ⟨RX4, "addClerk", "(II)I"⟩
abbrev cX4_addPerson : ByteArray := prog_6_method_7_code
def yX4_addPerson : MethodName := ⟨RX4, "addPerson", "(I)I"⟩
abbrev cX4_addStep : ByteArray := prog_6_method_8_code
def yX4_addStep : MethodName := ⟨RX4, "addStep", "(I)V"⟩
abbrev cX4_peopleAt : ByteArray := prog_6_method_9_code
def yX4_peopleAt : MethodName := ⟨RX4, "peopleAt", "(I)I"⟩
abbrev cX4_allEntries : ByteArray := prog_6_method_10_code
def yX4_allEntries : MethodName := ⟨RX4, "allEntries", "()I"⟩
def RX5 : String := "MirrorClerks$Sight"
def TX5 : u_T := fun k => match k with
  | 0 => ("MirrorClerks$Sight", "seen", "I", false)
  | 1 => ("MirrorClerks$Sight", "left", "I", false)
  | _ => ("MirrorClerks$Sight", "turns", "I", false)
def tyX5 : Nat → FieldType := fun k => match k with
  | 0 => .int
  | 1 => .int
  | _ => .int
abbrev wsX50 : List Cond := u_ws RX5 TX5 3
theorem nmX5 : ∀ a, a < 3 → ∀ b, b < 3 → a ≠ b → (TX5 a).2.1 ≠ (TX5 b).2.1 := by decide +kernel
theorem tyX5_ok : ∀ k, k < 3 → parseFieldDescriptor (TX5 k).2.2.1 = some (tyX5 k) := by decide +kernel
abbrev cX5_init : ByteArray := prog_7_method_1_code
def yX5_init : MethodName := ⟨RX5, "<init>", "()V"⟩
abbrev cX5_ofClerk : ByteArray := prog_7_method_2_code
def yX5_ofClerk : MethodName := ⟨RX5, "ofClerk", "(LMirrorClerks$House;LMirrorClerks$Scene;II)V"⟩
abbrev cX5_follow : ByteArray := prog_7_method_3_code
def yX5_follow : MethodName := ⟨RX5, "follow", "(LMirrorClerks$House;ZIII)V"⟩
abbrev cX5_comeTo : ByteArray := prog_7_method_4_code
def yX5_comeTo : MethodName := ⟨RX5, "comeTo", "(I)V"⟩
abbrev cX5_turnAt : ByteArray := prog_7_method_5_code
def yX5_turnAt : MethodName := ⟨RX5, "turnAt", "(IZZ)I"⟩
def RX6 : String := "MirrorClerks$Walk"
def TX6 : u_T := fun k => match k with
  | 0 => ("MirrorClerks$Walk", "prices", "[I", true)
  | _ => ("MirrorClerks$Walk", "firstWays", "[I", true)
def tyX6 : Nat → FieldType := fun k => match k with
  | 0 => .array .int
  | _ => .array .int
abbrev wsX60 : List Cond := u_ws RX6 TX6 2
theorem nmX6 : ∀ a, a < 2 → ∀ b, b < 2 → a ≠ b → (TX6 a).2.1 ≠ (TX6 b).2.1 := by decide +kernel
theorem tyX6_ok : ∀ k, k < 2 → parseFieldDescriptor (TX6 k).2.2.1 = some (tyX6 k) := by decide +kernel
abbrev cX6_init : ByteArray := prog_8_method_1_code
def yX6_init : MethodName := ⟨RX6, "<init>", "()V"⟩
abbrev cX6_reckon : ByteArray := prog_8_method_2_code
def yX6_reckon : MethodName := ⟨RX6, "reckon", "(LMirrorClerks$House;II)V"⟩
abbrev cX6_leadsFrom : ByteArray := prog_8_method_3_code
def yX6_leadsFrom : MethodName := ⟨RX6, "leadsFrom", "(I)Z"⟩
abbrev cX6_entriesFrom : ByteArray := prog_8_method_4_code
def yX6_entriesFrom : MethodName := ⟨RX6, "entriesFrom", "(I)I"⟩
abbrev cX6_stepsFrom : ByteArray := prog_8_method_5_code
def yX6_stepsFrom : MethodName := ⟨RX6, "stepsFrom", "(I)I"⟩
abbrev cX6_firstWayFrom : ByteArray := prog_8_method_6_code
def yX6_firstWayFrom : MethodName := ⟨RX6, "firstWayFrom", "(I)I"⟩
abbrev cX6_choose : ByteArray := prog_8_method_7_code
def yX6_choose : MethodName := ⟨RX6, "choose", "(LMirrorClerks$House;II)V"⟩
def RX7 : String := "MirrorClerks"
def TX7 : u_T := fun k => match k with
  | 0 => ("MirrorClerks", "page", "LMirrorClerks$Page;", true)
  | 1 => ("MirrorClerks", "home", "LMirrorClerks$House;", true)
  | 2 => ("MirrorClerks", "scene", "LMirrorClerks$Scene;", true)
  | 3 => ("MirrorClerks", "kept", "LMirrorClerks$Scene;", true)
  | 4 => ("MirrorClerks", "sight", "LMirrorClerks$Sight;", true)
  | 5 => ("MirrorClerks", "walks", "LMirrorClerks$Walk;", true)
  | 6 => ("MirrorClerks", "rows", "LMirrorClerks$Rows;", true)
  | 7 => ("MirrorClerks", "future", "LMirrorClerks$Days;", true)
  | 8 => ("MirrorClerks", "isKept", "Z", false)
  | 9 => ("MirrorClerks", "housesRead", "I", false)
  | _ => ("MirrorClerks", "tiltsDone", "I", false)
def tyX7 : Nat → FieldType := fun k => match k with
  | 0 => .object "MirrorClerks$Page"
  | 1 => .object "MirrorClerks$House"
  | 2 => .object "MirrorClerks$Scene"
  | 3 => .object "MirrorClerks$Scene"
  | 4 => .object "MirrorClerks$Sight"
  | 5 => .object "MirrorClerks$Walk"
  | 6 => .object "MirrorClerks$Rows"
  | 7 => .object "MirrorClerks$Days"
  | 8 => .boolean
  | 9 => .int
  | _ => .int
abbrev wsX70 : List Cond := u_ws RX7 TX7 11
theorem nmX7 : ∀ a, a < 11 → ∀ b, b < 11 → a ≠ b → (TX7 a).2.1 ≠ (TX7 b).2.1 := by decide +kernel
theorem tyX7_ok : ∀ k, k < 11 → parseFieldDescriptor (TX7 k).2.2.1 = some (tyX7 k) := by decide +kernel
abbrev cX7_init : ByteArray := prog_1_method_1_code
def yX7_init : MethodName := ⟨RX7, "<init>", "()V"⟩
abbrev cX7_letter : ByteArray := prog_1_method_2_code
def yX7_letter : MethodName := ⟨RX7, "letter", "(I)I"⟩
abbrev cX7_blank : ByteArray := prog_1_method_3_code
def yX7_blank : MethodName := ⟨RX7, "blank", "()I"⟩
abbrev cX7_fault : ByteArray := prog_1_method_4_code
def yX7_fault : MethodName := ⟨RX7, "fault", "()I"⟩
abbrev cX7_house : ByteArray := prog_1_method_5_code
def yX7_house : MethodName := ⟨RX7, "house", "()I"⟩
abbrev cX7_cell : ByteArray := prog_1_method_6_code
def yX7_cell : MethodName := ⟨RX7, "cell", "(II)I"⟩
abbrev cX7_as : ByteArray := prog_1_method_7_code
def yX7_as : MethodName := ⟨RX7, "as", "(II)I"⟩
abbrev cX7_dusk : ByteArray := prog_1_method_8_code
def yX7_dusk : MethodName := ⟨RX7, "dusk", "(Z)I"⟩
abbrev cX7_clerk : ByteArray := prog_1_method_9_code
def yX7_clerk : MethodName := ⟨RX7, "clerk", "(II)I"⟩
abbrev cX7_look : ByteArray := prog_1_method_10_code
def yX7_look : MethodName := ⟨RX7, "look", "(II)I"⟩
abbrev cX7_clerkOf : ByteArray := prog_1_method_11_code
def yX7_clerkOf : MethodName := ⟨RX7, "clerkOf", "(II)I"⟩
abbrev cX7_person : ByteArray := prog_1_method_12_code
def yX7_person : MethodName := ⟨RX7, "person", "(I)I"⟩
abbrev cX7_personOf : ByteArray := prog_1_method_13_code
def yX7_personOf : MethodName := ⟨RX7, "personOf", "(II)I"⟩
abbrev cX7_step : ByteArray := prog_1_method_14_code
def yX7_step : MethodName := ⟨RX7, "step", "(II)I"⟩
abbrev cX7_walk : ByteArray := prog_1_method_15_code
def yX7_walk : MethodName := ⟨RX7, "walk", "(III)I"⟩
abbrev cX7_post : ByteArray := prog_1_method_16_code
def yX7_post : MethodName := ⟨RX7, "post", "(I)I"⟩
abbrev cX7_tilt : ByteArray := prog_1_method_17_code
def yX7_tilt : MethodName := ⟨RX7, "tilt", "(II)I"⟩
abbrev cX7_ledger : ByteArray := prog_1_method_18_code
def yX7_ledger : MethodName := ⟨RX7, "ledger", "(I)I"⟩
abbrev cX7_forget : ByteArray := prog_1_method_19_code
def yX7_forget : MethodName := ⟨RX7, "forget", "()I"⟩
abbrev cX7_fits : ByteArray := prog_1_method_20_code
def yX7_fits : MethodName := ⟨RX7, "fits", "(II)I"⟩
abbrev cX7_days : ByteArray := prog_1_method_21_code
def yX7_days : MethodName := ⟨RX7, "days", "(III)I"⟩
abbrev cX7_image : ByteArray := prog_1_method_22_code
def yX7_image : MethodName := ⟨RX7, "image", "()I"⟩
abbrev cX7_restore : ByteArray := prog_1_method_23_code
def yX7_restore : MethodName := ⟨RX7, "restore", "()I"⟩
abbrev cX7_count : ByteArray := prog_1_method_24_code
def yX7_count : MethodName := ⟨RX7, "count", "(I)I"⟩
abbrev cX7_digest : ByteArray := prog_1_method_25_code
def yX7_digest : MethodName := ⟨RX7, "digest", "()J"⟩
abbrev cX7_clerksSeeing : ByteArray := prog_1_method_26_code
def yX7_clerksSeeing : MethodName := ⟨RX7, "clerksSeeing", "(IZ)I"⟩
abbrev cX7_seenByAny : ByteArray := prog_1_method_27_code
def yX7_seenByAny : MethodName := ⟨RX7, "seenByAny", "(I)I"⟩
abbrev cX7_seenWithPost : ByteArray := prog_1_method_28_code
def yX7_seenWithPost : MethodName := ⟨RX7, "seenWithPost", "(II)I"⟩
abbrev cX7_fewestTilted : ByteArray := prog_1_method_29_code
def yX7_fewestTilted : MethodName := ⟨RX7, "fewestTilted", "(I)I"⟩
abbrev cX7_isOfKind : ByteArray := prog_1_method_30_code
def yX7_isOfKind : MethodName := ⟨RX7, "isOfKind", "(II)Z"⟩
abbrev cX7_isWay : ByteArray := prog_1_method_31_code
def yX7_isWay : MethodName := ⟨RX7, "isWay", "(I)Z"⟩
abbrev cX7_oneIf : ByteArray := prog_1_method_32_code
def yX7_oneIf : MethodName := ⟨RX7, "oneIf", "(Z)I"⟩
abbrev cX7_bit : ByteArray := prog_1_method_33_code
def yX7_bit : MethodName := ⟨RX7, "bit", "(II)I"⟩
abbrev cX7_at : ByteArray := prog_1_method_34_code
def yX7_at : MethodName := ⟨RX7, "at", "([II)I"⟩
abbrev cX7_put : ByteArray := prog_1_method_35_code
def yX7_put : MethodName := ⟨RX7, "put", "([III)V"⟩
abbrev cX7_fill : ByteArray := prog_1_method_36_code
def yX7_fill : MethodName := ⟨RX7, "fill", "([II)V"⟩
abbrev cX7_copy : ByteArray := prog_1_method_37_code
def yX7_copy : MethodName := ⟨RX7, "copy", "([I[I)V"⟩
def RX8 : String := "MirrorClerksModel"
def TX8 : u_T := fun k => match k with
  | 0 => ("MirrorClerksModel", "page", "[I", true)
  | 1 => ("MirrorClerksModel", "pageMany", "I", false)
  | 2 => ("MirrorClerksModel", "deep", "I", false)
  | 3 => ("MirrorClerksModel", "duskNow", "I", false)
  | 4 => ("MirrorClerksModel", "housesRead", "I", false)
  | 5 => ("MirrorClerksModel", "signs", "[I", true)
  | 6 => ("MirrorClerksModel", "sightBits", "I", false)
  | 7 => ("MirrorClerksModel", "leftBits", "I", false)
  | 8 => ("MirrorClerksModel", "turns", "I", false)
  | 9 => ("MirrorClerksModel", "clerks", "I", false)
  | 10 => ("MirrorClerksModel", "people", "I", false)
  | 11 => ("MirrorClerksModel", "clerkRows", "[I", true)
  | 12 => ("MirrorClerksModel", "personRows", "[I", true)
  | 13 => ("MirrorClerksModel", "far", "[I", true)
  | 14 => ("MirrorClerksModel", "firsts", "[I", true)
  | 15 => ("MirrorClerksModel", "tiltMany", "I", false)
  | 16 => ("MirrorClerksModel", "ledgerMany", "I", false)
  | 17 => ("MirrorClerksModel", "ledgers", "[I", true)
  | 18 => ("MirrorClerksModel", "now", "[I", true)
  | 19 => ("MirrorClerksModel", "next", "[I", true)
  | 20 => ("MirrorClerksModel", "seedNow", "I", false)
  | 21 => ("MirrorClerksModel", "where", "[I", true)
  | 22 => ("MirrorClerksModel", "keptHouse", "I", false)
  | 23 => ("MirrorClerksModel", "keptDusk", "I", false)
  | 24 => ("MirrorClerksModel", "keptClerks", "I", false)
  | 25 => ("MirrorClerksModel", "keptPeople", "I", false)
  | 26 => ("MirrorClerksModel", "keptLedgerMany", "I", false)
  | 27 => ("MirrorClerksModel", "keptClerkRows", "[I", true)
  | 28 => ("MirrorClerksModel", "keptPersonRows", "[I", true)
  | 29 => ("MirrorClerksModel", "keptLedgers", "[I", true)
  | _ => ("MirrorClerksModel", "hash", "J", false)
def tyX8 : Nat → FieldType := fun k => match k with
  | 0 => .array .int
  | 1 => .int
  | 2 => .int
  | 3 => .int
  | 4 => .int
  | 5 => .array .int
  | 6 => .int
  | 7 => .int
  | 8 => .int
  | 9 => .int
  | 10 => .int
  | 11 => .array .int
  | 12 => .array .int
  | 13 => .array .int
  | 14 => .array .int
  | 15 => .int
  | 16 => .int
  | 17 => .array .int
  | 18 => .array .int
  | 19 => .array .int
  | 20 => .int
  | 21 => .array .int
  | 22 => .int
  | 23 => .int
  | 24 => .int
  | 25 => .int
  | 26 => .int
  | 27 => .array .int
  | 28 => .array .int
  | 29 => .array .int
  | _ => .long
abbrev wsX80 : List Cond := u_ws RX8 TX8 31
theorem nmX8 : ∀ a, a < 31 → ∀ b, b < 31 → a ≠ b → (TX8 a).2.1 ≠ (TX8 b).2.1 := by decide +kernel
theorem tyX8_ok : ∀ k, k < 31 → parseFieldDescriptor (TX8 k).2.2.1 = some (tyX8 k) := by decide +kernel
abbrev cX8_init : ByteArray := prog_10_method_1_code
def yX8_init : MethodName := ⟨RX8, "<init>", "()V"⟩
abbrev cX8_in : ByteArray := prog_10_method_2_code
def yX8_in : MethodName := ⟨RX8, "in", "(JJJ)Z"⟩
abbrev cX8_letter : ByteArray := prog_10_method_3_code
def yX8_letter : MethodName := ⟨RX8, "letter", "(I)I"⟩
abbrev cX8_blank : ByteArray := prog_10_method_4_code
def yX8_blank : MethodName := ⟨RX8, "blank", "()I"⟩
abbrev cX8_signOf : ByteArray := prog_10_method_5_code
def yX8_signOf : MethodName := ⟨RX8, "signOf", "(I)I"⟩
abbrev cX8_isGood : ByteArray := prog_10_method_6_code
def yX8_isGood : MethodName := ⟨RX8, "isGood", "(II)Z"⟩
abbrev cX8_faultOf : ByteArray := prog_10_method_7_code
def yX8_faultOf : MethodName := ⟨RX8, "faultOf", "()I"⟩
abbrev cX8_fault : ByteArray := prog_10_method_8_code
def yX8_fault : MethodName := ⟨RX8, "fault", "()I"⟩
abbrev cX8_floors : ByteArray := prog_10_method_9_code
def yX8_floors : MethodName := ⟨RX8, "floors", "()I"⟩
abbrev cX8_house : ByteArray := prog_10_method_10_code
def yX8_house : MethodName := ⟨RX8, "house", "()I"⟩
abbrev cX8_lacks : ByteArray := prog_10_method_11_code
def yX8_lacks : MethodName := ⟨RX8, "lacks", "()Z"⟩
abbrev cX8_isCell : ByteArray := prog_10_method_12_code
def yX8_isCell : MethodName := ⟨RX8, "isCell", "(I)Z"⟩
abbrev cX8_beside : ByteArray := prog_10_method_13_code
def yX8_beside : MethodName := ⟨RX8, "beside", "(II)I"⟩
abbrev cX8_turned : ByteArray := prog_10_method_14_code
def yX8_turned : MethodName := ⟨RX8, "turned", "(II)I"⟩
abbrev cX8_laySight : ByteArray := prog_10_method_15_code
def yX8_laySight : MethodName := ⟨RX8, "laySight", "(II)V"⟩
abbrev cX8_isClerk : ByteArray := prog_10_method_16_code
def yX8_isClerk : MethodName := ⟨RX8, "isClerk", "(I)Z"⟩
abbrev cX8_isPerson : ByteArray := prog_10_method_17_code
def yX8_isPerson : MethodName := ⟨RX8, "isPerson", "(I)Z"⟩
abbrev cX8_isWay : ByteArray := prog_10_method_18_code
def yX8_isWay : MethodName := ⟨RX8, "isWay", "(I)Z"⟩
abbrev cX8_seenBits : ByteArray := prog_10_method_19_code
def yX8_seenBits : MethodName := ⟨RX8, "seenBits", "()I"⟩
abbrev cX8_tellCell : ByteArray := prog_10_method_20_code
def yX8_tellCell : MethodName := ⟨RX8, "tellCell", "(II)I"⟩
abbrev cX8_cell : ByteArray := prog_10_method_21_code
def yX8_cell : MethodName := ⟨RX8, "cell", "(II)I"⟩
abbrev cX8_as : ByteArray := prog_10_method_22_code
def yX8_as : MethodName := ⟨RX8, "as", "(II)I"⟩
abbrev cX8_dusk : ByteArray := prog_10_method_23_code
def yX8_dusk : MethodName := ⟨RX8, "dusk", "(Z)I"⟩
abbrev cX8_clerk : ByteArray := prog_10_method_24_code
def yX8_clerk : MethodName := ⟨RX8, "clerk", "(II)I"⟩
abbrev cX8_look : ByteArray := prog_10_method_25_code
def yX8_look : MethodName := ⟨RX8, "look", "(II)I"⟩
abbrev cX8_tellClerk : ByteArray := prog_10_method_26_code
def yX8_tellClerk : MethodName := ⟨RX8, "tellClerk", "(II)I"⟩
abbrev cX8_clerkOf : ByteArray := prog_10_method_27_code
def yX8_clerkOf : MethodName := ⟨RX8, "clerkOf", "(II)I"⟩
abbrev cX8_person : ByteArray := prog_10_method_28_code
def yX8_person : MethodName := ⟨RX8, "person", "(I)I"⟩
abbrev cX8_personOf : ByteArray := prog_10_method_29_code
def yX8_personOf : MethodName := ⟨RX8, "personOf", "(II)I"⟩
abbrev cX8_stepTo : ByteArray := prog_10_method_30_code
def yX8_stepTo : MethodName := ⟨RX8, "stepTo", "(II)I"⟩
abbrev cX8_step : ByteArray := prog_10_method_31_code
def yX8_step : MethodName := ⟨RX8, "step", "(II)I"⟩
abbrev cX8_layFar : ByteArray := prog_10_method_32_code
def yX8_layFar : MethodName := ⟨RX8, "layFar", "(I)V"⟩
abbrev cX8_walk : ByteArray := prog_10_method_33_code
def yX8_walk : MethodName := ⟨RX8, "walk", "(III)I"⟩
abbrev cX8_ones : ByteArray := prog_10_method_34_code
def yX8_ones : MethodName := ⟨RX8, "ones", "(I)I"⟩
abbrev cX8_postOf : ByteArray := prog_10_method_35_code
def yX8_postOf : MethodName := ⟨RX8, "postOf", "(I)I"⟩
abbrev cX8_post : ByteArray := prog_10_method_36_code
def yX8_post : MethodName := ⟨RX8, "post", "(I)I"⟩
abbrev cX8_mayTilt : ByteArray := prog_10_method_37_code
def yX8_mayTilt : MethodName := ⟨RX8, "mayTilt", "(I)Z"⟩
abbrev cX8_change : ByteArray := prog_10_method_38_code
def yX8_change : MethodName := ⟨RX8, "change", "(I)V"⟩
abbrev cX8_tiltOf : ByteArray := prog_10_method_39_code
def yX8_tiltOf : MethodName := ⟨RX8, "tiltOf", "(I)I"⟩
abbrev cX8_tilt : ByteArray := prog_10_method_40_code
def yX8_tilt : MethodName := ⟨RX8, "tilt", "(II)I"⟩
abbrev cX8_ledger : ByteArray := prog_10_method_41_code
def yX8_ledger : MethodName := ⟨RX8, "ledger", "(I)I"⟩
abbrev cX8_forget : ByteArray := prog_10_method_42_code
def yX8_forget : MethodName := ⟨RX8, "forget", "()I"⟩
abbrev cX8_fitsOf : ByteArray := prog_10_method_43_code
def yX8_fitsOf : MethodName := ⟨RX8, "fitsOf", "(II)I"⟩
abbrev cX8_fits : ByteArray := prog_10_method_44_code
def yX8_fits : MethodName := ⟨RX8, "fits", "(II)I"⟩
abbrev cX8_draw : ByteArray := prog_10_method_45_code
def yX8_draw : MethodName := ⟨RX8, "draw", "(I)I"⟩
abbrev cX8_days : ByteArray := prog_10_method_46_code
def yX8_days : MethodName := ⟨RX8, "days", "(III)I"⟩
abbrev cX8_copy : ByteArray := prog_10_method_47_code
def yX8_copy : MethodName := ⟨RX8, "copy", "([I[I)V"⟩
abbrev cX8_enteredAll : ByteArray := prog_10_method_48_code
def yX8_enteredAll : MethodName := ⟨RX8, "enteredAll", "()I"⟩
abbrev cX8_image : ByteArray := prog_10_method_49_code
def yX8_image : MethodName := ⟨RX8, "image", "()I"⟩
abbrev cX8_restore : ByteArray := prog_10_method_50_code
def yX8_restore : MethodName := ⟨RX8, "restore", "()I"⟩
abbrev cX8_countOf : ByteArray := prog_10_method_51_code
def yX8_countOf : MethodName := ⟨RX8, "countOf", "(I)I"⟩
abbrev cX8_count : ByteArray := prog_10_method_52_code
def yX8_count : MethodName := ⟨RX8, "count", "(I)I"⟩
abbrev cX8_say : ByteArray := prog_10_method_53_code
def yX8_say : MethodName := ⟨RX8, "say", "(J)V"⟩
abbrev cX8_digest : ByteArray := prog_10_method_54_code
def yX8_digest : MethodName := ⟨RX8, "digest", "()J"⟩
def RJ11 : String := "java/lang/Character"
def TJ11 : u_T := fun k => match k with
  | _ => ("", "", "", false)
def tyJ11 : Nat → FieldType := fun k => match k with
  | _ => .int
abbrev wsJ110 : List Cond := u_ws RJ11 TJ11 0
theorem nmJ11 : ∀ a, a < 0 → ∀ b, b < 0 → a ≠ b → (TJ11 a).2.1 ≠ (TJ11 b).2.1 := by decide +kernel
theorem tyJ11_ok : ∀ k, k < 0 → parseFieldDescriptor (TJ11 k).2.2.1 = some (tyJ11 k) := by decide +kernel
abbrev cJ11_isValidCodePoint_9a6ad : ByteArray := prog_11_method_11_code
def yJ11_isValidCodePoint_9a6ad : MethodName := ⟨RJ11, "isValidCodePoint", "(I)Z"⟩
abbrev cJ11_highSurrogate_5068e : ByteArray := prog_11_method_28_code
def yJ11_highSurrogate_5068e : MethodName := ⟨RJ11, "highSurrogate", "(I)C"⟩
abbrev cJ11_lowSurrogate_5068e : ByteArray := prog_11_method_29_code
def yJ11_lowSurrogate_5068e : MethodName := ⟨RJ11, "lowSurrogate", "(I)C"⟩
def RJ6 : String := "java/lang/Integer"
def TJ6 : u_T := fun k => match k with
  | _ => ("", "", "", false)
def tyJ6 : Nat → FieldType := fun k => match k with
  | _ => .int
abbrev wsJ60 : List Cond := u_ws RJ6 TJ6 0
theorem nmJ6 : ∀ a, a < 0 → ∀ b, b < 0 → a ≠ b → (TJ6 a).2.1 ≠ (TJ6 b).2.1 := by decide +kernel
theorem tyJ6_ok : ∀ k, k < 0 → parseFieldDescriptor (TJ6 k).2.2.1 = some (tyJ6 k) := by decide +kernel
abbrev cJ6_bitCount_0f7a4 : ByteArray := prog_12_method_49_code
def yJ6_bitCount_0f7a4 : MethodName := ⟨RJ6, "bitCount", "(I)I"⟩
def RJ9 : String := "java/lang/Math"
def TJ9 : u_T := fun k => match k with
  | _ => ("", "", "", false)
def tyJ9 : Nat → FieldType := fun k => match k with
  | _ => .int
abbrev wsJ90 : List Cond := u_ws RJ9 TJ9 0
theorem nmJ9 : ∀ a, a < 0 → ∀ b, b < 0 → a ≠ b → (TJ9 a).2.1 ≠ (TJ9 b).2.1 := by decide +kernel
theorem tyJ9_ok : ∀ k, k < 0 → parseFieldDescriptor (TJ9 k).2.2.1 = some (tyJ9 k) := by decide +kernel
abbrev cJ9_max_7cf53 : ByteArray := prog_13_method_65_code
def yJ9_max_7cf53 : MethodName := ⟨RJ9, "max", "(II)I"⟩
abbrev cJ9_min_7cf53 : ByteArray := prog_13_method_69_code
def yJ9_min_7cf53 : MethodName := ⟨RJ9, "min", "(II)I"⟩
def RJ0 : String := "java/lang/String"
def TJ0 : u_T := fun k => match k with
  | _ => ("", "", "", false)
def tyJ0 : Nat → FieldType := fun k => match k with
  | _ => .int
abbrev wsJ00 : List Cond := u_ws RJ0 TJ0 0
theorem nmJ0 : ∀ a, a < 0 → ∀ b, b < 0 → a ≠ b → (TJ0 a).2.1 ≠ (TJ0 b).2.1 := by decide +kernel
theorem tyJ0_ok : ∀ k, k < 0 → parseFieldDescriptor (TJ0 k).2.2.1 = some (tyJ0 k) := by decide +kernel
abbrev cJ0_length_8abf5 : ByteArray := prog_14_method_54_code
def yJ0_length_8abf5 : MethodName := ⟨RJ0, "length", "()I"⟩
abbrev cJ0_indexOf_0f7a4 : ByteArray := prog_14_method_79_code
def yJ0_indexOf_0f7a4 : MethodName := ⟨RJ0, "indexOf", "(I)I"⟩
abbrev cJ0_indexOf_7cf53 : ByteArray := prog_14_method_80_code
def yJ0_indexOf_7cf53 : MethodName := ⟨RJ0, "indexOf", "(II)I"⟩
abbrev cJ0_coder_7d493 : ByteArray := prog_14_method_152_code
def yJ0_coder_7d493 : MethodName := ⟨RJ0, "coder", "()B"⟩
abbrev cJ0_isLatin1_aae02 : ByteArray := prog_14_method_154_code
def yJ0_isLatin1_aae02 : MethodName := ⟨RJ0, "isLatin1", "()Z"⟩
abbrev cJ0_checkBoundsBeginEnd_23922 : ByteArray := prog_14_method_158_code
def yJ0_checkBoundsBeginEnd_23922 : MethodName := ⟨RJ0, "checkBoundsBeginEnd", "(III)V"⟩
def RJ1 : String := "java/lang/StringLatin1"
def TJ1 : u_T := fun k => match k with
  | _ => ("", "", "", false)
def tyJ1 : Nat → FieldType := fun k => match k with
  | _ => .int
abbrev wsJ10 : List Cond := u_ws RJ1 TJ1 0
theorem nmJ1 : ∀ a, a < 0 → ∀ b, b < 0 → a ≠ b → (TJ1 a).2.1 ≠ (TJ1 b).2.1 := by decide +kernel
theorem tyJ1_ok : ∀ k, k < 0 → parseFieldDescriptor (TJ1 k).2.2.1 = some (tyJ1 k) := by decide +kernel
abbrev cJ1_canEncode_9a6ad : ByteArray := prog_15_method_4_code
def yJ1_canEncode_9a6ad : MethodName := ⟨RJ1, "canEncode", "(I)Z"⟩
abbrev cJ1_indexOf_4cfef : ByteArray := prog_15_method_22_code
def yJ1_indexOf_4cfef : MethodName := ⟨RJ1, "indexOf", "([BIII)I"⟩
abbrev cJ1_indexOfChar_4cfef : ByteArray := prog_15_method_23_code
def yJ1_indexOfChar_4cfef : MethodName := ⟨RJ1, "indexOfChar", "([BIII)I"⟩
def RJ2 : String := "java/lang/StringUTF16"
def TJ2 : u_T := fun k => match k with
  | _ => ("", "", "", false)
def tyJ2 : Nat → FieldType := fun k => match k with
  | _ => .int
abbrev wsJ20 : List Cond := u_ws RJ2 TJ2 0
theorem nmJ2 : ∀ a, a < 0 → ∀ b, b < 0 → a ≠ b → (TJ2 a).2.1 ≠ (TJ2 b).2.1 := by decide +kernel
theorem tyJ2_ok : ∀ k, k < 0 → parseFieldDescriptor (TJ2 k).2.2.1 = some (tyJ2 k) := by decide +kernel
abbrev cJ2_getChar_3b067 : ByteArray := prog_16_method_5_code
def yJ2_getChar_3b067 : MethodName := ⟨RJ2, "getChar", "([BI)C"⟩
abbrev cJ2_length_9d52b : ByteArray := prog_16_method_6_code
def yJ2_length_9d52b : MethodName := ⟨RJ2, "length", "([B)I"⟩
abbrev cJ2_indexOf_4cfef : ByteArray := prog_16_method_40_code
def yJ2_indexOf_4cfef : MethodName := ⟨RJ2, "indexOf", "([BIII)I"⟩
abbrev cJ2_indexOfChar_4cfef : ByteArray := prog_16_method_47_code
def yJ2_indexOfChar_4cfef : MethodName := ⟨RJ2, "indexOfChar", "([BIII)I"⟩
abbrev cJ2_indexOfCharUnsafe_4cfef : ByteArray := prog_16_method_48_code
def yJ2_indexOfCharUnsafe_4cfef : MethodName := ⟨RJ2, "indexOfCharUnsafe", "([BIII)I"⟩
abbrev cJ2_indexOfSupplementary_4cfef : ByteArray := prog_16_method_49_code
def yJ2_indexOfSupplementary_4cfef : MethodName := ⟨RJ2, "indexOfSupplementary", "([BIII)I"⟩
abbrev cJ2_checkBoundsBeginEnd_d044e : ByteArray := prog_16_method_93_code
def yJ2_checkBoundsBeginEnd_d044e : MethodName := ⟨RJ2, "checkBoundsBeginEnd", "(II[B)V"⟩
def RJ3 : String := "jdk/internal/util/Preconditions"
def TJ3 : u_T := fun k => match k with
  | _ => ("", "", "", false)
def tyJ3 : Nat → FieldType := fun k => match k with
  | _ => .int
abbrev wsJ30 : List Cond := u_ws RJ3 TJ3 0
theorem nmJ3 : ∀ a, a < 0 → ∀ b, b < 0 → a ≠ b → (TJ3 a).2.1 ≠ (TJ3 b).2.1 := by decide +kernel
theorem tyJ3_ok : ∀ k, k < 0 → parseFieldDescriptor (TJ3 k).2.2.1 = some (tyJ3 k) := by decide +kernel
abbrev cJ3_checkFromToIndex_8c36e : ByteArray := prog_17_method_12_code
def yJ3_checkFromToIndex_8c36e : MethodName := ⟨RJ3, "checkFromToIndex", "(IIILjava/util/function/BiFunction;)I"⟩
def RL : String := "MirrorClerksLaw"
abbrev cL_law : ByteArray := code
def yL_law : MethodName := ⟨RL, "law", "([I)Z"⟩

abbrev vwCl : List vw_C := [(RX0, TX0, 3), (RX1, TX1, 3), (RX2, TX2, 2), (RX3, TX3, 2), (RX4, TX4, 9), (RX5, TX5, 3), (RX6, TX6, 2), (RX7, TX7, 11), (RX8, TX8, 31)]
end
section
abbrev TE : Type := Nat × Instr × Nat × Nat × Nat × Nat × Int
def RCL : List (String) := [RX0, RX1, RX2, RX3, RX4, RX5, RX6, RX7, RX8, RJ6, RJ9, RJ0, RJ1, RL]
def RC (k : Nat) : String := (RCL)[k]?.getD ""
def TTL : List (u_T) := [TX0, TX1, TX2, TX3, TX4, TX5, TX6, TX7, TX8]
def TT (k : Nat) : u_T := (TTL)[k]?.getD TX0
def TYFL : List (Nat → FieldType) := [tyX0, tyX1, tyX2, tyX3, tyX4, tyX5, tyX6, tyX7, tyX8]
def TYF (k : Nat) : Nat → FieldType := (TYFL)[k]?.getD tyX0
def NFL : List (Nat) := [3, 3, 2, 2, 9, 3, 2, 11, 31]
def NF (k : Nat) : Nat := (NFL)[k]?.getD 0
def YNL : List (MethodName) := [yX0_init, yX0_reckon, yX0_goByDraw, yX1_init, yX1_read, yX1_has, yX1_signAt, yX1_isFloor, yX1_floors, yX1_tiltable, yX1_floorBeside, yX1_beside, yX2_init, yX2_add, yX2_empty, yX2_isHouse, yX2_firstFault, yX2_isDue, yX2_signAt, yX2_depth, yX2_signOf, yX3_init, yX3_reckon, yX3_number, yX3_ends, yX3_goOn, yX4_init, yX4_empty, yX4_takeFrom, yX4_hasClerk, yX4_hasPerson, yX4_addClerk, yX4_addPerson, yX4_addStep, yX4_peopleAt, yX4_allEntries, yX5_init, yX5_ofClerk, yX5_follow, yX5_comeTo, yX5_turnAt, yX6_init, yX6_reckon, yX6_leadsFrom, yX6_entriesFrom, yX6_stepsFrom, yX6_firstWayFrom, yX6_choose, yX7_init, yX7_letter, yX7_blank, yX7_fault, yX7_house, yX7_cell, yX7_as, yX7_dusk, yX7_clerk, yX7_look, yX7_clerkOf, yX7_person, yX7_personOf, yX7_step, yX7_walk, yX7_post, yX7_tilt, yX7_ledger, yX7_forget, yX7_fits, yX7_days, yX7_image, yX7_restore, yX7_count, yX7_digest, yX7_clerksSeeing, yX7_seenByAny, yX7_seenWithPost, yX7_fewestTilted, yX7_isOfKind, yX7_isWay, yX7_oneIf, yX7_bit, yX7_at, yX7_put, yX7_fill, yX7_copy, yX8_init, yX8_in, yX8_letter, yX8_blank, yX8_signOf, yX8_isGood, yX8_faultOf, yX8_fault, yX8_floors, yX8_house, yX8_lacks, yX8_isCell, yX8_beside, yX8_turned, yX8_laySight, yX8_isClerk, yX8_isPerson, yX8_isWay, yX8_seenBits, yX8_tellCell, yX8_cell, yX8_as, yX8_dusk, yX8_clerk, yX8_look, yX8_tellClerk, yX8_clerkOf, yX8_person, yX8_personOf, yX8_stepTo, yX8_step, yX8_layFar, yX8_walk, yX8_ones, yX8_postOf, yX8_post, yX8_mayTilt, yX8_change, yX8_tiltOf, yX8_tilt, yX8_ledger, yX8_forget, yX8_fitsOf, yX8_fits, yX8_draw, yX8_days, yX8_copy, yX8_enteredAll, yX8_image, yX8_restore, yX8_countOf, yX8_count, yX8_say, yX8_digest, yJ6_bitCount_0f7a4, yJ0_length_8abf5, yJ0_indexOf_0f7a4, yJ0_indexOf_7cf53, yJ0_coder_7d493, yJ0_isLatin1_aae02, yJ1_canEncode_9a6ad, yJ1_indexOf_4cfef, yJ1_indexOfChar_4cfef, yL_law]
def YN (k : Nat) : MethodName := (YNL)[k]?.getD yX0_init
def BCL : List (ByteArray) := [cX0_init, cX0_reckon, cX0_goByDraw, cX1_init, cX1_read, cX1_has, cX1_signAt, cX1_isFloor, cX1_floors, cX1_tiltable, cX1_floorBeside, cX1_beside, cX2_init, cX2_add, cX2_empty, cX2_isHouse, cX2_firstFault, cX2_isDue, cX2_signAt, cX2_depth, cX2_signOf, cX3_init, cX3_reckon, cX3_number, cX3_ends, cX3_goOn, cX4_init, cX4_empty, cX4_takeFrom, cX4_hasClerk, cX4_hasPerson, cX4_addClerk, cX4_addPerson, cX4_addStep, cX4_peopleAt, cX4_allEntries, cX5_init, cX5_ofClerk, cX5_follow, cX5_comeTo, cX5_turnAt, cX6_init, cX6_reckon, cX6_leadsFrom, cX6_entriesFrom, cX6_stepsFrom, cX6_firstWayFrom, cX6_choose, cX7_init, cX7_letter, cX7_blank, cX7_fault, cX7_house, cX7_cell, cX7_as, cX7_dusk, cX7_clerk, cX7_look, cX7_clerkOf, cX7_person, cX7_personOf, cX7_step, cX7_walk, cX7_post, cX7_tilt, cX7_ledger, cX7_forget, cX7_fits, cX7_days, cX7_image, cX7_restore, cX7_count, cX7_digest, cX7_clerksSeeing, cX7_seenByAny, cX7_seenWithPost, cX7_fewestTilted, cX7_isOfKind, cX7_isWay, cX7_oneIf, cX7_bit, cX7_at, cX7_put, cX7_fill, cX7_copy, cX8_init, cX8_in, cX8_letter, cX8_blank, cX8_signOf, cX8_isGood, cX8_faultOf, cX8_fault, cX8_floors, cX8_house, cX8_lacks, cX8_isCell, cX8_beside, cX8_turned, cX8_laySight, cX8_isClerk, cX8_isPerson, cX8_isWay, cX8_seenBits, cX8_tellCell, cX8_cell, cX8_as, cX8_dusk, cX8_clerk, cX8_look, cX8_tellClerk, cX8_clerkOf, cX8_person, cX8_personOf, cX8_stepTo, cX8_step, cX8_layFar, cX8_walk, cX8_ones, cX8_postOf, cX8_post, cX8_mayTilt, cX8_change, cX8_tiltOf, cX8_tilt, cX8_ledger, cX8_forget, cX8_fitsOf, cX8_fits, cX8_draw, cX8_days, cX8_copy, cX8_enteredAll, cX8_image, cX8_restore, cX8_countOf, cX8_count, cX8_say, cX8_digest, cJ6_bitCount_0f7a4, cJ0_length_8abf5, cJ0_indexOf_0f7a4, cJ0_indexOf_7cf53, cJ0_coder_7d493, cJ0_isLatin1_aae02, cJ1_canEncode_9a6ad, cJ1_indexOf_4cfef, cJ1_indexOfChar_4cfef, code]
def BC (k : Nat) : ByteArray := (BCL)[k]?.getD cX0_init
def NLL : List (Nat) := [1, 8, 6, 1, 3, 2, 2, 2, 3, 4, 4, 3, 1, 2, 1, 1, 2, 2, 2, 1, 1, 1, 6, 3, 3, 7, 1, 1, 2, 2, 2, 3, 2, 2, 4, 3, 1, 5, 11, 2, 3, 1, 6, 2, 2, 2, 2, 8, 1, 2, 2, 1, 1, 3, 3, 3, 3, 4, 3, 2, 3, 4, 5, 7, 4, 2, 2, 3, 4, 1, 1, 2, 5, 5, 4, 4, 7, 2, 1, 1, 2, 2, 3, 3, 3, 1, 6, 2, 2, 1, 2, 2, 1, 3, 2, 1, 2, 3, 3, 9, 2, 2, 1, 3, 7, 3, 5, 3, 3, 4, 3, 3, 2, 3, 4, 4, 10, 4, 3, 8, 2, 1, 3, 5, 4, 2, 2, 8, 3, 2, 9, 3, 3, 1, 1, 2, 2, 3, 3, 1, 1, 2, 3, 1, 1, 1, 4, 6, 4]
def NL (k : Nat) : Nat := (NLL)[k]?.getD 0
def RTL : List (Option FieldType) := [none, none, none, none, none, some .boolean, some .int, some .boolean, some .int, some .int, some .int, some .int, none, none, none, some .boolean, some .int, some .boolean, some .int, some .int, some .int, none, none, some .int, some .int, none, none, none, none, some .boolean, some .boolean, some .int, some .int, none, some .int, some .int, none, none, none, none, some .int, none, none, some .boolean, some .int, some .int, some .int, none, none, some .int, some .int, some .int, some .int, some .int, some .int, some .int, some .int, some .int, some .int, some .int, some .int, some .int, some .int, some .int, some .int, some .int, some .int, some .int, some .int, some .int, some .int, some .int, some .long, some .int, some .int, some .int, some .int, some .boolean, some .boolean, some .int, some .int, some .int, none, none, none, none, some .boolean, some .int, some .int, some .int, some .boolean, some .int, some .int, some .int, some .int, some .boolean, some .boolean, some .int, some .int, none, some .boolean, some .boolean, some .boolean, some .int, some .int, some .int, some .int, some .int, some .int, some .int, some .int, some .int, some .int, some .int, some .int, some .int, none, some .int, some .int, some .int, some .int, some .boolean, none, some .int, some .int, some .int, some .int, some .int, some .int, some .int, some .int, none, some .int, some .int, some .int, some .int, some .int, none, some .long, some .int, some .int, some .int, some .int, some .byte, some .boolean, some .boolean, some .int, some .int, some .boolean]
def RT (k : Nat) : Option FieldType := (RTL)[k]?.getD none
def CKL : List (Nat) := [0, 0, 0, 1, 1, 1, 1, 1, 1, 1, 1, 1, 2, 2, 2, 2, 2, 2, 2, 2, 2, 3, 3, 3, 3, 3, 4, 4, 4, 4, 4, 4, 4, 4, 4, 4, 5, 5, 5, 5, 5, 6, 6, 6, 6, 6, 6, 6, 7, 7, 7, 7, 7, 7, 7, 7, 7, 7, 7, 7, 7, 7, 7, 7, 7, 7, 7, 7, 7, 7, 7, 7, 7, 7, 7, 7, 7, 7, 7, 7, 7, 7, 7, 7, 7, 8, 8, 8, 8, 8, 8, 8, 8, 8, 8, 8, 8, 8, 8, 8, 8, 8, 8, 8, 8, 8, 8, 8, 8, 8, 8, 8, 8, 8, 8, 8, 8, 8, 8, 8, 8, 8, 8, 8, 8, 8, 8, 8, 8, 8, 8, 8, 8, 8, 8, 8, 8, 8, 8, 9, 11, 11, 11, 11, 11, 12, 12, 12, 13]
def CK (k : Nat) : Nat := (CKL)[k]?.getD 0
def RKL : List (Nat) := [1, 5, 4, 1, 7, 1, 2, 2, 3, 3, 3, 1, 1, 2, 1, 8, 7, 6, 6, 2, 5, 1, 5, 2, 2, 4, 1, 1, 3, 1, 1, 2, 2, 2, 2, 2, 1, 4, 3, 2, 1, 1, 5, 2, 2, 2, 2, 4, 2, 3, 2, 8, 9, 6, 3, 2, 3, 2, 5, 3, 2, 6, 6, 6, 7, 3, 1, 6, 6, 4, 4, 6, 7, 5, 5, 4, 6, 1, 1, 1, 1, 1, 1, 1, 2, 1, 1, 2, 1, 1, 2, 3, 4, 1, 4, 1, 2, 1, 1, 2, 2, 2, 2, 3, 3, 4, 3, 2, 3, 3, 3, 4, 3, 3, 2, 4, 4, 5, 1, 4, 5, 1, 1, 4, 5, 2, 1, 4, 5, 1, 4, 1, 1, 2, 2, 4, 5, 1, 5, 1, 2, 4, 3, 1, 1, 1, 2, 1, 10]
def RK (k : Nat) : Nat := (RKL)[k]?.getD 0
def MCL : List (Nat) := [1, 0, 0, 1, 0, 0, 0, 0, 0, 0, 0, 0, 1, 0, 0, 0, 0, 0, 0, 0, 0, 2, 0, 0, 0, 0, 5, 0, 0, 0, 0, 0, 0, 0, 0, 0, 0, 0, 0, 0, 0, 2, 0, 0, 0, 0, 0, 0, 25, 0, 0, 0, 0, 0, 0, 0, 0, 0, 0, 0, 0, 0, 0, 0, 0, 0, 0, 0, 0, 0, 0, 0, 0, 0, 0, 0, 0, 0, 0, 0, 0, 0, 0, 0, 0, 13, 0, 0, 0, 0, 0, 0, 0, 0, 0, 0, 0, 0, 0, 0, 0, 0, 0, 0, 0, 0, 0, 0, 0, 0, 0, 0, 0, 0, 0, 0, 0, 0, 0, 0, 0, 0, 0, 0, 0, 0, 0, 0, 0, 0, 0, 0, 0, 0, 0, 0, 0, 0, 0, 0, 0, 0, 0, 0, 0, 0, 0, 0, 40]
def MC (k : Nat) : Nat := (MCL)[k]?.getD 0
def MSL : List (Nat) := [3, 0, 0, 12, 0, 0, 0, 0, 0, 0, 0, 0, 18, 0, 0, 0, 0, 0, 0, 0, 0, 24, 0, 0, 0, 0, 20, 0, 0, 0, 0, 0, 0, 0, 0, 0, 0, 0, 0, 0, 0, 24, 0, 0, 0, 0, 0, 0, 154, 0, 0, 0, 0, 0, 0, 0, 0, 0, 0, 0, 0, 0, 0, 0, 0, 0, 0, 0, 0, 0, 0, 0, 0, 0, 0, 0, 0, 0, 0, 0, 0, 0, 0, 0, 0, 121, 0, 0, 0, 0, 0, 0, 0, 0, 0, 0, 0, 0, 0, 0, 0, 0, 0, 0, 0, 0, 0, 0, 0, 0, 0, 0, 0, 0, 0, 0, 0, 0, 0, 0, 0, 0, 0, 0, 0, 0, 0, 0, 0, 0, 0, 0, 0, 0, 0, 0, 0, 0, 0, 0, 0, 0, 0, 0, 0, 0, 0, 0, 317]
def MS (k : Nat) : Nat := (MSL)[k]?.getD 0
def PCoL : List (Nat) := [187, 627, 632, 74, 372, 397, 410, 393, 389, 577, 508, 426, 58, 243, 254, 367, 262, 268, 376, 381, 271, 174, 598, 614, 618, 605, 93, 385, 648, 478, 500, 469, 492, 586, 443, 653, 142, 418, 423, 431, 437, 161, 521, 537, 541, 545, 549, 530, 50, 239, 250, 258, 363, 405, 449, 456, 461, 474, 484, 488, 496, 504, 517, 553, 569, 582, 590, 594, 623, 644, 657, 661, 665, 414, 513, 557, 573, 452, 464, 401, 434, 265, 246, 525, 610, 678, 781, 777, 785, 800, 796, 793, 789, 808, 804, 821, 816, 832, 836, 829, 861, 881, 852, 893, 825, 812, 840, 845, 849, 857, 869, 865, 873, 877, 889, 885, 902, 897, 914, 911, 907, 925, 929, 922, 918, 933, 938, 946, 942, 958, 953, 949, 970, 966, 974, 982, 978, 991, 986, 561, 290, 276, 280, 294, 284, 300, 297, 309, 0]
def PCo (k : Nat) : Nat := (PCoL)[k]?.getD 0
def PStL : List (Nat) := [9999, 9999, 9999, 9999, 9999, 9999, 9999, 9999, 9999, 9999, 9999, 425, 9999, 9999, 9999, 9999, 9999, 267, 9999, 9999, 270, 9999, 9999, 9999, 9999, 9999, 9999, 9999, 9999, 9999, 9999, 9999, 9999, 9999, 9999, 9999, 9999, 9999, 9999, 9999, 436, 9999, 9999, 9999, 9999, 9999, 9999, 9999, 9999, 9999, 9999, 9999, 9999, 9999, 9999, 9999, 9999, 9999, 9999, 9999, 9999, 9999, 9999, 9999, 9999, 9999, 9999, 9999, 9999, 9999, 9999, 9999, 9999, 9999, 9999, 9999, 9999, 451, 463, 400, 433, 264, 245, 524, 609, 9999, 780, 9999, 9999, 799, 795, 9999, 9999, 9999, 9999, 9999, 9999, 831, 9999, 9999, 9999, 9999, 851, 9999, 9999, 9999, 9999, 9999, 9999, 9999, 9999, 9999, 9999, 9999, 9999, 9999, 9999, 9999, 913, 9999, 9999, 924, 9999, 9999, 9999, 9999, 9999, 9999, 9999, 9999, 9999, 948, 9999, 9999, 9999, 9999, 9999, 9999, 9999, 560, 9999, 9999, 9999, 9999, 9999, 299, 296, 308, 9999]
def PSt (k : Nat) : Nat := (PStL)[k]?.getD 0
def PInL : List (Nat) := [186, 625, 631, 73, 370, 395, 408, 391, 387, 575, 506, 9999, 57, 241, 252, 365, 260, 9999, 374, 379, 9999, 173, 596, 612, 616, 604, 92, 383, 646, 476, 498, 467, 490, 584, 441, 651, 141, 416, 421, 430, 9999, 160, 519, 535, 539, 543, 547, 529, 49, 237, 248, 256, 361, 403, 447, 454, 459, 472, 482, 486, 494, 502, 515, 551, 567, 580, 588, 592, 621, 642, 655, 659, 663, 413, 512, 556, 572, 9999, 9999, 9999, 9999, 9999, 9999, 9999, 9999, 677, 9999, 775, 783, 9999, 9999, 792, 787, 807, 802, 820, 815, 9999, 835, 828, 860, 880, 9999, 892, 824, 810, 838, 843, 847, 855, 868, 863, 871, 875, 888, 883, 901, 895, 9999, 910, 905, 9999, 928, 921, 916, 931, 936, 945, 940, 957, 951, 9999, 969, 964, 972, 981, 976, 990, 984, 9999, 288, 274, 278, 292, 282, 9999, 9999, 9999, 9999]
def PIn (k : Nat) : Nat := (PInL)[k]?.getD 0
def PSeL : List (Nat) := [9999, 626, 7, 9999, 371, 396, 409, 392, 388, 576, 507, 9999, 9999, 242, 253, 366, 261, 9999, 375, 380, 9999, 9999, 597, 613, 617, 6, 9999, 384, 647, 477, 499, 468, 491, 585, 442, 652, 9999, 417, 422, 1, 9999, 9999, 520, 536, 540, 544, 548, 3, 9999, 238, 249, 257, 362, 404, 448, 455, 460, 473, 483, 487, 495, 503, 516, 552, 568, 581, 589, 593, 622, 643, 656, 660, 664, 0, 2, 4, 5, 9999, 9999, 9999, 9999, 9999, 9999, 9999, 9999, 9999, 9999, 776, 784, 9999, 9999, 8, 788, 9, 803, 11, 10, 9999, 14, 13, 15, 17, 9999, 19, 12, 811, 839, 844, 848, 856, 16, 864, 872, 876, 18, 884, 20, 896, 9999, 21, 906, 9999, 23, 22, 917, 932, 937, 24, 941, 25, 952, 9999, 26, 965, 973, 27, 977, 28, 985, 9999, 289, 275, 279, 293, 283, 9999, 9999, 9999, 9999]
def PSe (k : Nat) : Nat := (PSeL)[k]?.getD 0
def PIiL : List (Nat) := [37, 37, 37, 32, 32, 32, 32, 32, 32, 32, 32, 32, 31, 31, 31, 31, 31, 31, 31, 31, 31, 36, 36, 36, 36, 36, 33, 33, 33, 33, 33, 33, 33, 33, 33, 33, 34, 34, 34, 34, 34, 35, 35, 35, 35, 35, 35, 35, 30, 30, 30, 30, 30, 30, 30, 30, 30, 30, 30, 30, 30, 30, 30, 30, 30, 30, 30, 30, 30, 30, 30, 30, 30, 30, 30, 30, 30, 30, 30, 30, 30, 30, 30, 30, 30, 38, 38, 38, 38, 38, 38, 38, 38, 38, 38, 38, 38, 38, 38, 38, 38, 38, 38, 38, 38, 38, 38, 38, 38, 38, 38, 38, 38, 38, 38, 38, 38, 38, 38, 38, 38, 38, 38, 38, 38, 38, 38, 38, 38, 38, 38, 38, 38, 38, 38, 38, 38, 38, 38, 45, 39, 39, 39, 39, 39, 40, 40, 40, 29]
def PIi (k : Nat) : Nat := (PIiL)[k]?.getD 0
def NWL : List Jvm.Cond := [.methodLinkNest "MirrorClerks" 9 yX2_init "MirrorClerks", .methodLinkNest "MirrorClerks" 18 yX1_init "MirrorClerks", .methodLinkNest "MirrorClerks" 25 yX4_init "MirrorClerks", .methodLinkNest "MirrorClerks" 35 yX5_init "MirrorClerks", .methodLinkNest "MirrorClerks" 42 yX6_init "MirrorClerks", .methodLinkNest "MirrorClerks" 49 yX3_init "MirrorClerks", .methodLinkNest "MirrorClerks" 56 yX0_init "MirrorClerks", .methodLinkNest "MirrorClerks$Page" 19 yX7_put "MirrorClerks", .methodLinkNest "MirrorClerks$Page" 27 yX7_at "MirrorClerks", .methodLinkNest "MirrorClerks$House" 21 yX7_put "MirrorClerks", .methodLinkNest "MirrorClerks$House" 40 yX7_at "MirrorClerks", .methodLinkNest "MirrorClerks$House" 47 yX7_oneIf "MirrorClerks", .methodLinkNest "MirrorClerks$Sight" 19 yX7_at "MirrorClerks", .methodLinkNest "MirrorClerks$Sight" 56 yX7_bit "MirrorClerks", .methodLinkNest "MirrorClerks$Sight" 66 yX7_oneIf "MirrorClerks", .methodLinkNest "MirrorClerks$Scene" 49 yX7_at "MirrorClerks", .methodLinkNest "MirrorClerks$Scene" 53 yX7_oneIf "MirrorClerks", .methodLinkNest "MirrorClerks$Scene" 45 yX7_put "MirrorClerks", .methodLinkNest "MirrorClerks$Walk" 19 yX7_fill "MirrorClerks", .methodLinkNest "MirrorClerks$Walk" 23 yX7_put "MirrorClerks", .methodLinkNest "MirrorClerks$Walk" 31 yX7_at "MirrorClerks", .methodLinkNest "MirrorClerks$Walk" 41 yX7_bit "MirrorClerks", .methodLinkNest "MirrorClerks$Rows" 18 yX7_fill "MirrorClerks", .methodLinkNest "MirrorClerks$Rows" 22 yX7_put "MirrorClerks", .methodLinkNest "MirrorClerks$Rows" 35 yX7_at "MirrorClerks", .methodLinkNest "MirrorClerks$Rows" 53 yX7_bit "MirrorClerks", .methodLinkNest "MirrorClerks$Rows" 56 yX7_copy "MirrorClerks", .methodLinkNest "MirrorClerks$Rows" 43 yX7_oneIf "MirrorClerks", .methodLinkNest "MirrorClerks$Days" 20 yX7_copy "MirrorClerks", .methodLinkNest "MirrorClerks$Days" 45 yX7_at "MirrorClerks", .methodLinkNest "MirrorClerks$Days" 55 yX7_put "MirrorClerks", .methodLinkNest "MirrorClerks$Days" 59 yX7_bit "MirrorClerks", .methodLinkNest "MirrorClerks$Scene" 41 yX7_copy "MirrorClerks"]
def NWP : List (Nat × Nat) := [(0, 56), (1, 72), (2, 91), (3, 140), (4, 159), (5, 172), (6, 185), (7, 244), (8, 263), (9, 377), (10, 398), (11, 399), (12, 419), (13, 432), (14, 438), (15, 444), (16, 445), (17, 470), (18, 523), (19, 526), (20, 532), (21, 533), (22, 599), (23, 600), (24, 601), (25, 607), (26, 608), (27, 619), (28, 628), (29, 637), (30, 639), (31, 640), (32, 649)]
def OPO : Nat := 53
def OPI : Nat := 52
def STRR : Nat := 1000001
def BYTR : Nat := 1000002
def BYTES : List Int32 := [46, 35, 109, 98, 102, 119, 118]
def LAWM : Nat := 148
def SCR : Nat := 1000000
def T_0_0 : List TE := [(0, .aload_n 0, 1, 0, 0, 0, 0), (1, .invokespecial 3, 3, 5, 0, 188, 0), (4, .aload_n 0, 1, 0, 0, 0, 0), (5, .iconst 3, 1, 0, 0, 0, 0), (6, .newarray .int, 2, 0, 0, 0, 0), (8, .putfield 9, 3, 0, 0, 189, 0), (11, .return_, 1, 0, 0, 0, 0)]
def T_0 : List TE := T_0_0
def T_1_0 : List TE := [(0, .aload_n 2, 1, 0, 0, 0, 0), (1, .getfield 15, 3, 4, 2, 102, 0), (4, .aload_n 0, 1, 0, 0, 0, 0), (5, .getfield 9, 3, 0, 0, 189, 0), (8, .invokestatic 20, 3, 2, 84, 28, 2), (11, .aload_n 0, 1, 0, 0, 0, 0), (12, .iconst 0, 1, 0, 0, 0, 0), (13, .putfield 24, 3, 0, 1, 191, 0), (16, .aload_n 0, 1, 0, 0, 0, 0), (17, .iload 5, 2, 0, 0, 0, 0), (19, .putfield 28, 3, 0, 2, 193, 0), (22, .iconst 0, 1, 0, 0, 0, 0), (23, .istore 6, 2, 0, 0, 0, 0), (25, .iload 6, 2, 0, 0, 0, 0), (27, .iload 4, 2, 0, 0, 0, 0), (29, .if_icmp .ge 35, 3, 64, 0, 0, 0), (32, .iconst 0, 1, 0, 0, 0, 0), (33, .istore 7, 2, 0, 0, 0, 0), (35, .iload 7, 2, 0, 0, 0, 0), (37, .aload_n 2, 1, 0, 0, 0, 0), (38, .getfield 31, 3, 4, 6, 111, 0), (41, .if_icmp .ge 17, 3, 58, 0, 0, 0), (44, .aload_n 0, 1, 0, 0, 0, 0), (45, .aload_n 1, 1, 0, 0, 0, 0), (46, .iload_n 3, 1, 0, 0, 0, 0), (47, .iload 7, 2, 0, 0, 0, 0), (49, .invokevirtual 34, 3, 0, 2, 629, 3), (52, .iinc 7 1, 3, 0, 0, 0, 0), (55, .goto (-20), 3, 35, 0, 0, 0), (58, .iinc 6 1, 3, 0, 0, 0, 0), (61, .goto (-36), 3, 25, 0, 0, 0), (64, .return_, 1, 0, 0, 0, 0)]
def T_1 : List TE := T_1_0
def T_2_0 : List TE := [(0, .aload_n 0, 1, 0, 0, 0, 0), (1, .ldc2_w 38, 3, 0, 0, 633, 1103515245), (4, .aload_n 0, 1, 0, 0, 0, 0), (5, .getfield 28, 3, 0, 2, 193, 0), (8, .i2l, 1, 0, 0, 0, 0), (9, .lmul, 1, 0, 0, 0, 0), (10, .ldc2_w 40, 3, 0, 0, 634, 12345), (13, .ladd, 1, 0, 0, 0, 0), (14, .ldc2_w 42, 3, 0, 0, 635, 2147483647), (17, .land, 1, 0, 0, 0, 0), (18, .l2i, 1, 0, 0, 0, 0), (19, .putfield 28, 3, 0, 2, 193, 0), (22, .aload_n 0, 1, 0, 0, 0, 0), (23, .getfield 28, 3, 0, 2, 193, 0), (26, .ldc 44, 2, 0, 0, 636, 65536), (28, .idiv, 1, 0, 0, 0, 0), (29, .iconst 4, 1, 0, 0, 0, 0), (30, .irem, 1, 0, 0, 0, 0), (31, .istore 4, 2, 0, 0, 0, 0), (33, .aload_n 1, 1, 0, 0, 0, 0), (34, .aload_n 0, 1, 0, 0, 0, 0), (35, .getfield 9, 3, 0, 0, 189, 0), (38, .iload_n 3, 1, 0, 0, 0, 0), (39, .invokestatic 45, 3, 2, 81, 29, 2), (42, .iload 4, 2, 0, 0, 0, 0), (44, .invokevirtual 49, 3, 0, 10, 638, 2), (47, .istore 5, 2, 0, 0, 0, 0), (49, .iload 5, 2, 0, 0, 0, 0), (51, .iconst (-1), 1, 0, 0, 0, 0), (52, .if_icmp .eq 28, 3, 80, 0, 0, 0), (55, .aload_n 0, 1, 0, 0, 0, 0), (56, .getfield 9, 3, 0, 0, 189, 0), (59, .iload_n 3, 1, 0, 0, 0, 0), (60, .iload 5, 2, 0, 0, 0, 0), (62, .invokestatic 55, 3, 2, 82, 30, 3), (65, .aload_n 0, 1, 0, 0, 0, 0), (66, .dup, 1, 0, 0, 0, 0), (67, .getfield 24, 3, 0, 1, 191, 0), (70, .iload_n 2, 1, 0, 0, 0, 0), (71, .iload 5, 2, 0, 0, 0, 0)]
def T_2_1 : List TE := [(73, .invokestatic 59, 3, 2, 80, 31, 2), (76, .iadd, 1, 0, 0, 0, 0), (77, .putfield 24, 3, 0, 1, 191, 0), (80, .return_, 1, 0, 0, 0, 0)]
def T_2 : List TE := T_2_0 ++ T_2_1
def T_3_0 : List TE := [(0, .aload_n 0, 1, 0, 0, 0, 0), (1, .invokespecial 3, 3, 5, 0, 75, 0), (4, .aload_n 0, 1, 0, 0, 0, 0), (5, .bipush 12, 2, 0, 0, 0, 0), (7, .newarray .int, 2, 0, 0, 0, 0), (9, .putfield 9, 3, 1, 0, 76, 0), (12, .return_, 1, 0, 0, 0, 0)]
def T_3 : List TE := T_3_0
def T_4_0 : List TE := [(0, .iconst 0, 1, 0, 0, 0, 0), (1, .istore_n 2, 1, 0, 0, 0, 0), (2, .iload_n 2, 1, 0, 0, 0, 0), (3, .bipush 12, 2, 0, 0, 0, 0), (5, .if_icmp .ge 22, 3, 27, 0, 0, 0), (8, .aload_n 0, 1, 0, 0, 0, 0), (9, .getfield 9, 3, 1, 0, 76, 0), (12, .iload_n 2, 1, 0, 0, 0, 0), (13, .aload_n 1, 1, 0, 0, 0, 0), (14, .iload_n 2, 1, 0, 0, 0, 0), (15, .invokevirtual 15, 3, 0, 18, 373, 1), (18, .invokestatic 21, 3, 2, 82, 9, 3), (21, .iinc 2 1, 3, 0, 0, 0, 0), (24, .goto (-22), 3, 2, 0, 0, 0), (27, .aload_n 0, 1, 0, 0, 0, 0), (28, .aload_n 1, 1, 0, 0, 0, 0), (29, .invokevirtual 25, 3, 0, 19, 378, 0), (32, .putfield 29, 3, 1, 2, 79, 0), (35, .aload_n 0, 1, 0, 0, 0, 0), (36, .iconst 1, 1, 0, 0, 0, 0), (37, .putfield 32, 3, 1, 1, 77, 0), (40, .return_, 1, 0, 0, 0, 0)]
def T_4 : List TE := T_4_0
def T_5_0 : List TE := [(0, .aload_n 0, 1, 0, 0, 0, 0), (1, .getfield 32, 3, 1, 1, 77, 0), (4, .ifCond .eq 17, 3, 21, 0, 0, 0), (7, .iload_n 1, 1, 0, 0, 0, 0), (8, .ifCond .lt 13, 3, 21, 0, 0, 0), (11, .iload_n 1, 1, 0, 0, 0, 0), (12, .bipush 12, 2, 0, 0, 0, 0), (14, .if_icmp .ge 7, 3, 21, 0, 0, 0), (17, .iconst 1, 1, 0, 0, 0, 0), (18, .goto 4, 3, 22, 0, 0, 0), (21, .iconst 0, 1, 0, 0, 0, 0), (22, .ireturn, 1, 0, 0, 0, 0)]
def T_5 : List TE := T_5_0
def T_6_0 : List TE := [(0, .aload_n 0, 1, 0, 0, 0, 0), (1, .iload_n 1, 1, 0, 0, 0, 0), (2, .invokevirtual 36, 3, 0, 5, 394, 1), (5, .ifCond .eq 14, 3, 19, 0, 0, 0), (8, .aload_n 0, 1, 0, 0, 0, 0), (9, .getfield 9, 3, 1, 0, 76, 0), (12, .iload_n 1, 1, 0, 0, 0, 0), (13, .invokestatic 40, 3, 2, 81, 10, 2), (16, .goto 4, 3, 20, 0, 0, 0), (19, .iconst 1, 1, 0, 0, 0, 0), (20, .ireturn, 1, 0, 0, 0, 0)]
def T_6 : List TE := T_6_0
def T_7_0 : List TE := [(0, .aload_n 0, 1, 0, 0, 0, 0), (1, .iload_n 1, 1, 0, 0, 0, 0), (2, .invokevirtual 36, 3, 0, 5, 394, 1), (5, .ifCond .eq 18, 3, 23, 0, 0, 0), (8, .aload_n 0, 1, 0, 0, 0, 0), (9, .getfield 9, 3, 1, 0, 76, 0), (12, .iload_n 1, 1, 0, 0, 0, 0), (13, .invokestatic 40, 3, 2, 81, 10, 2), (16, .ifCond .ne 7, 3, 23, 0, 0, 0), (19, .iconst 1, 1, 0, 0, 0, 0), (20, .goto 4, 3, 24, 0, 0, 0), (23, .iconst 0, 1, 0, 0, 0, 0), (24, .ireturn, 1, 0, 0, 0, 0)]
def T_7 : List TE := T_7_0
def T_8_0 : List TE := [(0, .iconst 0, 1, 0, 0, 0, 0), (1, .istore_n 1, 1, 0, 0, 0, 0), (2, .iconst 0, 1, 0, 0, 0, 0), (3, .istore_n 2, 1, 0, 0, 0, 0), (4, .iload_n 2, 1, 0, 0, 0, 0), (5, .bipush 12, 2, 0, 0, 0, 0), (7, .if_icmp .ge 20, 3, 27, 0, 0, 0), (10, .iload_n 1, 1, 0, 0, 0, 0), (11, .aload_n 0, 1, 0, 0, 0, 0), (12, .iload_n 2, 1, 0, 0, 0, 0), (13, .invokevirtual 44, 3, 0, 7, 390, 1), (16, .invokestatic 47, 3, 2, 79, 11, 1), (19, .iadd, 1, 0, 0, 0, 0), (20, .istore_n 1, 1, 0, 0, 0, 0), (21, .iinc 2 1, 3, 0, 0, 0, 0), (24, .goto (-20), 3, 4, 0, 0, 0), (27, .iload_n 1, 1, 0, 0, 0, 0), (28, .ireturn, 1, 0, 0, 0, 0)]
def T_8 : List TE := T_8_0
def T_9_0 : List TE := [(0, .iconst 0, 1, 0, 0, 0, 0), (1, .istore_n 1, 1, 0, 0, 0, 0), (2, .iconst 0, 1, 0, 0, 0, 0), (3, .istore_n 2, 1, 0, 0, 0, 0), (4, .iload_n 2, 1, 0, 0, 0, 0), (5, .bipush 12, 2, 0, 0, 0, 0), (7, .if_icmp .ge 38, 3, 45, 0, 0, 0), (10, .aload_n 0, 1, 0, 0, 0, 0), (11, .iload_n 2, 1, 0, 0, 0, 0), (12, .invokevirtual 51, 3, 0, 6, 578, 1), (15, .istore_n 3, 1, 0, 0, 0, 0), (16, .iload_n 1, 1, 0, 0, 0, 0), (17, .iload_n 3, 1, 0, 0, 0, 0), (18, .iconst 2, 1, 0, 0, 0, 0), (19, .if_icmp .eq 8, 3, 27, 0, 0, 0), (22, .iload_n 3, 1, 0, 0, 0, 0), (23, .iconst 3, 1, 0, 0, 0, 0), (24, .if_icmp .ne 7, 3, 31, 0, 0, 0), (27, .iconst 1, 1, 0, 0, 0, 0), (28, .goto 4, 3, 32, 0, 0, 0), (31, .iconst 0, 1, 0, 0, 0, 0), (32, .invokestatic 47, 3, 2, 79, 11, 1), (35, .iload_n 2, 1, 0, 0, 0, 0), (36, .ishl, 1, 0, 0, 0, 0), (37, .ior, 1, 0, 0, 0, 0), (38, .istore_n 1, 1, 0, 0, 0, 0), (39, .iinc 2 1, 3, 0, 0, 0, 0), (42, .goto (-38), 3, 4, 0, 0, 0), (45, .iload_n 1, 1, 0, 0, 0, 0), (46, .ireturn, 1, 0, 0, 0, 0)]
def T_9 : List TE := T_9_0
def T_10_0 : List TE := [(0, .iload_n 1, 1, 0, 0, 0, 0), (1, .iload_n 2, 1, 0, 0, 0, 0), (2, .invokestatic 52, 3, 1, 11, 509, 2), (5, .istore_n 3, 1, 0, 0, 0, 0), (6, .aload_n 0, 1, 0, 0, 0, 0), (7, .iload_n 3, 1, 0, 0, 0, 0), (8, .invokevirtual 44, 3, 0, 7, 390, 1), (11, .ifCond .eq 7, 3, 18, 0, 0, 0), (14, .iload_n 3, 1, 0, 0, 0, 0), (15, .goto 4, 3, 19, 0, 0, 0), (18, .iconst (-1), 1, 0, 0, 0, 0), (19, .ireturn, 1, 0, 0, 0, 0)]
def T_10 : List TE := T_10_0
def T_11_0 : List TE := [(0, .iload_n 0, 1, 0, 0, 0, 0), (1, .iconst 4, 1, 0, 0, 0, 0), (2, .irem, 1, 0, 0, 0, 0), (3, .istore_n 2, 1, 0, 0, 0, 0), (4, .iload_n 1, 1, 0, 0, 0, 0), (5, .tableswitch 83 0 3 #[31, 44, 58, 70], 31, 0, 0, 0, 0), (36, .iload_n 2, 1, 0, 0, 0, 0), (37, .iconst 3, 1, 0, 0, 0, 0), (38, .if_icmp .ge 9, 3, 47, 0, 0, 0), (41, .iload_n 0, 1, 0, 0, 0, 0), (42, .iconst 1, 1, 0, 0, 0, 0), (43, .iadd, 1, 0, 0, 0, 0), (44, .goto 4, 3, 48, 0, 0, 0), (47, .iconst (-1), 1, 0, 0, 0, 0), (48, .ireturn, 1, 0, 0, 0, 0), (49, .iload_n 0, 1, 0, 0, 0, 0), (50, .bipush 8, 2, 0, 0, 0, 0), (52, .if_icmp .ge 9, 3, 61, 0, 0, 0), (55, .iload_n 0, 1, 0, 0, 0, 0), (56, .iconst 4, 1, 0, 0, 0, 0), (57, .iadd, 1, 0, 0, 0, 0), (58, .goto 4, 3, 62, 0, 0, 0), (61, .iconst (-1), 1, 0, 0, 0, 0), (62, .ireturn, 1, 0, 0, 0, 0), (63, .iload_n 2, 1, 0, 0, 0, 0), (64, .ifCond .le 9, 3, 73, 0, 0, 0), (67, .iload_n 0, 1, 0, 0, 0, 0), (68, .iconst 1, 1, 0, 0, 0, 0), (69, .isub, 1, 0, 0, 0, 0), (70, .goto 4, 3, 74, 0, 0, 0), (73, .iconst (-1), 1, 0, 0, 0, 0), (74, .ireturn, 1, 0, 0, 0, 0), (75, .iload_n 0, 1, 0, 0, 0, 0), (76, .iconst 4, 1, 0, 0, 0, 0), (77, .if_icmp .lt 9, 3, 86, 0, 0, 0), (80, .iload_n 0, 1, 0, 0, 0, 0), (81, .iconst 4, 1, 0, 0, 0, 0), (82, .isub, 1, 0, 0, 0, 0), (83, .goto 4, 3, 87, 0, 0, 0), (86, .iconst (-1), 1, 0, 0, 0, 0)]
def T_11_1 : List TE := [(87, .ireturn, 1, 0, 0, 0, 0), (88, .iconst (-1), 1, 0, 0, 0, 0), (89, .ireturn, 1, 0, 0, 0, 0)]
def T_11 : List TE := T_11_0 ++ T_11_1
def T_12_0 : List TE := [(0, .aload_n 0, 1, 0, 0, 0, 0), (1, .invokespecial 3, 3, 5, 0, 59, 0), (4, .aload_n 0, 1, 0, 0, 0, 0), (5, .bipush 18, 2, 0, 0, 0, 0), (7, .newarray .int, 2, 0, 0, 0, 0), (9, .putfield 9, 3, 2, 0, 60, 0), (12, .return_, 1, 0, 0, 0, 0)]
def T_12 : List TE := T_12_0
def T_13_0 : List TE := [(0, .aload_n 0, 1, 0, 0, 0, 0), (1, .getfield 9, 3, 2, 0, 60, 0), (4, .aload_n 0, 1, 0, 0, 0, 0), (5, .getfield 15, 3, 2, 1, 62, 0), (8, .iload_n 1, 1, 0, 0, 0, 0), (9, .invokestatic 19, 3, 2, 82, 7, 3), (12, .aload_n 0, 1, 0, 0, 0, 0), (13, .dup, 1, 0, 0, 0, 0), (14, .getfield 15, 3, 2, 1, 62, 0), (17, .iconst 1, 1, 0, 0, 0, 0), (18, .iadd, 1, 0, 0, 0, 0), (19, .putfield 15, 3, 2, 1, 62, 0), (22, .return_, 1, 0, 0, 0, 0)]
def T_13 : List TE := T_13_0
def T_14_0 : List TE := [(0, .aload_n 0, 1, 0, 0, 0, 0), (1, .iconst 0, 1, 0, 0, 0, 0), (2, .putfield 15, 3, 2, 1, 62, 0), (5, .return_, 1, 0, 0, 0, 0)]
def T_14 : List TE := T_14_0
def T_15_0 : List TE := [(0, .aload_n 0, 1, 0, 0, 0, 0), (1, .getfield 15, 3, 2, 1, 62, 0), (4, .bipush 16, 2, 0, 0, 0, 0), (6, .if_icmp .ne 16, 3, 22, 0, 0, 0), (9, .aload_n 0, 1, 0, 0, 0, 0), (10, .invokevirtual 23, 3, 0, 16, 368, 0), (13, .bipush 16, 2, 0, 0, 0, 0), (15, .if_icmp .ne 7, 3, 22, 0, 0, 0), (18, .iconst 1, 1, 0, 0, 0, 0), (19, .goto 4, 3, 23, 0, 0, 0), (22, .iconst 0, 1, 0, 0, 0, 0), (23, .ireturn, 1, 0, 0, 0, 0)]
def T_15 : List TE := T_15_0
def T_16_0 : List TE := [(0, .iconst 0, 1, 0, 0, 0, 0), (1, .istore_n 1, 1, 0, 0, 0, 0), (2, .iload_n 1, 1, 0, 0, 0, 0), (3, .aload_n 0, 1, 0, 0, 0, 0), (4, .getfield 15, 3, 2, 1, 62, 0), (7, .if_icmp .ge 26, 3, 33, 0, 0, 0), (10, .iload_n 1, 1, 0, 0, 0, 0), (11, .aload_n 0, 1, 0, 0, 0, 0), (12, .getfield 9, 3, 2, 0, 60, 0), (15, .iload_n 1, 1, 0, 0, 0, 0), (16, .invokestatic 27, 3, 2, 81, 8, 2), (19, .invokestatic 31, 3, 1, 17, 266, 2), (22, .ifCond .ne 5, 3, 27, 0, 0, 0), (25, .iload_n 1, 1, 0, 0, 0, 0), (26, .ireturn, 1, 0, 0, 0, 0), (27, .iinc 1 1, 3, 0, 0, 0, 0), (30, .goto (-28), 3, 2, 0, 0, 0), (33, .aload_n 0, 1, 0, 0, 0, 0), (34, .getfield 15, 3, 2, 1, 62, 0), (37, .ireturn, 1, 0, 0, 0, 0)]
def T_16 : List TE := T_16_0
def T_17_0 : List TE := [(0, .iload_n 0, 1, 0, 0, 0, 0), (1, .bipush 16, 2, 0, 0, 0, 0), (3, .if_icmp .lt 5, 3, 8, 0, 0, 0), (6, .iconst 0, 1, 0, 0, 0, 0), (7, .ireturn, 1, 0, 0, 0, 0), (8, .iload_n 0, 1, 0, 0, 0, 0), (9, .bipush 15, 2, 0, 0, 0, 0), (11, .if_icmp .ne 21, 3, 32, 0, 0, 0), (14, .iload_n 1, 1, 0, 0, 0, 0), (15, .bipush 49, 2, 0, 0, 0, 0), (17, .if_icmp .lt 13, 3, 30, 0, 0, 0), (20, .iload_n 1, 1, 0, 0, 0, 0), (21, .bipush 57, 2, 0, 0, 0, 0), (23, .if_icmp .gt 7, 3, 30, 0, 0, 0), (26, .iconst 1, 1, 0, 0, 0, 0), (27, .goto 4, 3, 31, 0, 0, 0), (30, .iconst 0, 1, 0, 0, 0, 0), (31, .ireturn, 1, 0, 0, 0, 0), (32, .iload_n 0, 1, 0, 0, 0, 0), (33, .bipush 14, 2, 0, 0, 0, 0), (35, .if_icmp .ne 15, 3, 50, 0, 0, 0), (38, .iload_n 1, 1, 0, 0, 0, 0), (39, .bipush 59, 2, 0, 0, 0, 0), (41, .if_icmp .ne 7, 3, 48, 0, 0, 0), (44, .iconst 1, 1, 0, 0, 0, 0), (45, .goto 4, 3, 49, 0, 0, 0), (48, .iconst 0, 1, 0, 0, 0, 0), (49, .ireturn, 1, 0, 0, 0, 0), (50, .iload_n 0, 1, 0, 0, 0, 0), (51, .iconst 5, 1, 0, 0, 0, 0), (52, .irem, 1, 0, 0, 0, 0), (53, .iconst 4, 1, 0, 0, 0, 0), (54, .if_icmp .ne 15, 3, 69, 0, 0, 0), (57, .iload_n 1, 1, 0, 0, 0, 0), (58, .bipush 44, 2, 0, 0, 0, 0), (60, .if_icmp .ne 7, 3, 67, 0, 0, 0), (63, .iconst 1, 1, 0, 0, 0, 0), (64, .goto 4, 3, 68, 0, 0, 0), (67, .iconst 0, 1, 0, 0, 0, 0), (68, .ireturn, 1, 0, 0, 0, 0)]
def T_17_1 : List TE := [(69, .iload_n 1, 1, 0, 0, 0, 0), (70, .invokestatic 35, 3, 1, 20, 269, 1), (73, .iconst (-1), 1, 0, 0, 0, 0), (74, .if_icmp .eq 7, 3, 81, 0, 0, 0), (77, .iconst 1, 1, 0, 0, 0, 0), (78, .goto 4, 3, 82, 0, 0, 0), (81, .iconst 0, 1, 0, 0, 0, 0), (82, .ireturn, 1, 0, 0, 0, 0)]
def T_17 : List TE := T_17_0 ++ T_17_1
def T_18_0 : List TE := [(0, .aload_n 0, 1, 0, 0, 0, 0), (1, .getfield 9, 3, 2, 0, 60, 0), (4, .iload_n 1, 1, 0, 0, 0, 0), (5, .iload_n 1, 1, 0, 0, 0, 0), (6, .iconst 4, 1, 0, 0, 0, 0), (7, .idiv, 1, 0, 0, 0, 0), (8, .iadd, 1, 0, 0, 0, 0), (9, .invokestatic 27, 3, 2, 81, 8, 2), (12, .invokestatic 35, 3, 1, 20, 269, 1), (15, .ireturn, 1, 0, 0, 0, 0)]
def T_18 : List TE := T_18_0
def T_19_0 : List TE := [(0, .aload_n 0, 1, 0, 0, 0, 0), (1, .getfield 9, 3, 2, 0, 60, 0), (4, .bipush 15, 2, 0, 0, 0, 0), (6, .invokestatic 27, 3, 2, 81, 8, 2), (9, .bipush 48, 2, 0, 0, 0, 0), (11, .isub, 1, 0, 0, 0, 0), (12, .ireturn, 1, 0, 0, 0, 0)]
def T_19 : List TE := T_19_0
def T_20_0 : List TE := [(0, .ldc 39, 2, 7, 0, 0, 0), (2, .iload_n 0, 1, 0, 0, 0, 0), (3, .i2c, 1, 0, 0, 0, 0), (4, .invokevirtual 41, 3, 0, 141, 273, 1), (7, .ireturn, 1, 0, 0, 0, 0)]
def T_20 : List TE := T_20_0
def T_21_0 : List TE := [(0, .aload_n 0, 1, 0, 0, 0, 0), (1, .invokespecial 3, 3, 5, 0, 175, 0), (4, .aload_n 0, 1, 0, 0, 0, 0), (5, .bipush 12, 2, 0, 0, 0, 0), (7, .newarray .int, 2, 0, 0, 0, 0), (9, .putfield 9, 3, 3, 0, 176, 0), (12, .aload_n 0, 1, 0, 0, 0, 0), (13, .bipush 12, 2, 0, 0, 0, 0), (15, .newarray .int, 2, 0, 0, 0, 0), (17, .putfield 15, 3, 3, 1, 177, 0), (20, .return_, 1, 0, 0, 0, 0)]
def T_21 : List TE := T_21_0
def T_22_0 : List TE := [(0, .aload_n 0, 1, 0, 0, 0, 0), (1, .getfield 9, 3, 3, 0, 176, 0), (4, .iconst 0, 1, 0, 0, 0, 0), (5, .invokestatic 18, 3, 2, 83, 22, 2), (8, .aload_n 0, 1, 0, 0, 0, 0), (9, .getfield 9, 3, 3, 0, 176, 0), (12, .iload 4, 2, 0, 0, 0, 0), (14, .iconst 1, 1, 0, 0, 0, 0), (15, .invokestatic 22, 3, 2, 82, 23, 3), (18, .iconst 0, 1, 0, 0, 0, 0), (19, .istore 5, 2, 0, 0, 0, 0), (21, .iload 5, 2, 0, 0, 0, 0), (23, .aload_n 2, 1, 0, 0, 0, 0), (24, .getfield 26, 3, 4, 7, 114, 0), (27, .if_icmp .ge 24, 3, 51, 0, 0, 0), (30, .aload_n 0, 1, 0, 0, 0, 0), (31, .aload_n 1, 1, 0, 0, 0, 0), (32, .iload_n 3, 1, 0, 0, 0, 0), (33, .aload_n 2, 1, 0, 0, 0, 0), (34, .getfield 32, 3, 4, 4, 107, 0), (37, .iload 5, 2, 0, 0, 0, 0), (39, .invokestatic 35, 3, 2, 81, 24, 2), (42, .invokevirtual 39, 3, 0, 25, 602, 3), (45, .iinc 5 1, 3, 0, 0, 0, 0), (48, .goto (-27), 3, 21, 0, 0, 0), (51, .return_, 1, 0, 0, 0, 0)]
def T_22 : List TE := T_22_0
def T_23_0 : List TE := [(0, .iconst 0, 1, 0, 0, 0, 0), (1, .istore_n 1, 1, 0, 0, 0, 0), (2, .iconst 0, 1, 0, 0, 0, 0), (3, .istore_n 2, 1, 0, 0, 0, 0), (4, .iload_n 2, 1, 0, 0, 0, 0), (5, .bipush 12, 2, 0, 0, 0, 0), (7, .if_icmp .ge 20, 3, 27, 0, 0, 0), (10, .iload_n 1, 1, 0, 0, 0, 0), (11, .aload_n 0, 1, 0, 0, 0, 0), (12, .getfield 9, 3, 3, 0, 176, 0), (15, .iload_n 2, 1, 0, 0, 0, 0), (16, .invokestatic 35, 3, 2, 81, 24, 2), (19, .iadd, 1, 0, 0, 0, 0), (20, .istore_n 1, 1, 0, 0, 0, 0), (21, .iinc 2 1, 3, 0, 0, 0, 0), (24, .goto (-20), 3, 4, 0, 0, 0), (27, .iload_n 1, 1, 0, 0, 0, 0), (28, .ireturn, 1, 0, 0, 0, 0)]
def T_23 : List TE := T_23_0
def T_24_0 : List TE := [(0, .iconst 0, 1, 0, 0, 0, 0), (1, .istore_n 1, 1, 0, 0, 0, 0), (2, .iconst 0, 1, 0, 0, 0, 0), (3, .istore_n 2, 1, 0, 0, 0, 0), (4, .iload_n 2, 1, 0, 0, 0, 0), (5, .bipush 12, 2, 0, 0, 0, 0), (7, .if_icmp .ge 33, 3, 40, 0, 0, 0), (10, .iload_n 1, 1, 0, 0, 0, 0), (11, .aload_n 0, 1, 0, 0, 0, 0), (12, .getfield 9, 3, 3, 0, 176, 0), (15, .iload_n 2, 1, 0, 0, 0, 0), (16, .invokestatic 35, 3, 2, 81, 24, 2), (19, .ifCond .le 7, 3, 26, 0, 0, 0), (22, .iconst 1, 1, 0, 0, 0, 0), (23, .goto 4, 3, 27, 0, 0, 0), (26, .iconst 0, 1, 0, 0, 0, 0), (27, .invokestatic 43, 3, 2, 79, 27, 1), (30, .iload_n 2, 1, 0, 0, 0, 0), (31, .ishl, 1, 0, 0, 0, 0), (32, .ior, 1, 0, 0, 0, 0), (33, .istore_n 1, 1, 0, 0, 0, 0), (34, .iinc 2 1, 3, 0, 0, 0, 0), (37, .goto (-33), 3, 4, 0, 0, 0), (40, .iload_n 1, 1, 0, 0, 0, 0), (41, .ireturn, 1, 0, 0, 0, 0)]
def T_24 : List TE := T_24_0
def T_25_0 : List TE := [(0, .aload_n 0, 1, 0, 0, 0, 0), (1, .getfield 15, 3, 3, 1, 177, 0), (4, .iconst 0, 1, 0, 0, 0, 0), (5, .invokestatic 18, 3, 2, 83, 22, 2), (8, .iconst 0, 1, 0, 0, 0, 0), (9, .istore 4, 2, 0, 0, 0, 0), (11, .iload 4, 2, 0, 0, 0, 0), (13, .bipush 12, 2, 0, 0, 0, 0), (15, .if_icmp .ge 83, 3, 98, 0, 0, 0), (18, .iconst 0, 1, 0, 0, 0, 0), (19, .istore 5, 2, 0, 0, 0, 0), (21, .iload 5, 2, 0, 0, 0, 0), (23, .iconst 4, 1, 0, 0, 0, 0), (24, .if_icmp .ge 68, 3, 92, 0, 0, 0), (27, .aload_n 1, 1, 0, 0, 0, 0), (28, .iload 4, 2, 0, 0, 0, 0), (30, .iload 5, 2, 0, 0, 0, 0), (32, .invokevirtual 47, 3, 0, 10, 606, 2), (35, .istore 6, 2, 0, 0, 0, 0), (37, .iload 6, 2, 0, 0, 0, 0), (39, .iconst (-1), 1, 0, 0, 0, 0), (40, .if_icmp .eq 46, 3, 86, 0, 0, 0), (43, .iload_n 3, 1, 0, 0, 0, 0), (44, .iconst (-1), 1, 0, 0, 0, 0), (45, .if_icmp .eq 13, 3, 58, 0, 0, 0), (48, .iload_n 3, 1, 0, 0, 0, 0), (49, .iload_n 2, 1, 0, 0, 0, 0), (50, .iload 6, 2, 0, 0, 0, 0), (52, .invokestatic 53, 3, 2, 80, 25, 2), (55, .if_icmp .ne 31, 3, 86, 0, 0, 0), (58, .aload_n 0, 1, 0, 0, 0, 0), (59, .getfield 15, 3, 3, 1, 177, 0), (62, .iload 6, 2, 0, 0, 0, 0), (64, .aload_n 0, 1, 0, 0, 0, 0), (65, .getfield 15, 3, 3, 1, 177, 0), (68, .iload 6, 2, 0, 0, 0, 0), (70, .invokestatic 35, 3, 2, 81, 24, 2), (73, .aload_n 0, 1, 0, 0, 0, 0), (74, .getfield 9, 3, 3, 0, 176, 0), (77, .iload 4, 2, 0, 0, 0, 0)]
def T_25_1 : List TE := [(79, .invokestatic 35, 3, 2, 81, 24, 2), (82, .iadd, 1, 0, 0, 0, 0), (83, .invokestatic 22, 3, 2, 82, 23, 3), (86, .iinc 5 1, 3, 0, 0, 0, 0), (89, .goto (-68), 3, 21, 0, 0, 0), (92, .iinc 4 1, 3, 0, 0, 0, 0), (95, .goto (-84), 3, 11, 0, 0, 0), (98, .aload_n 0, 1, 0, 0, 0, 0), (99, .getfield 15, 3, 3, 1, 177, 0), (102, .aload_n 0, 1, 0, 0, 0, 0), (103, .getfield 9, 3, 3, 0, 176, 0), (106, .invokestatic 56, 3, 2, 84, 26, 2), (109, .return_, 1, 0, 0, 0, 0)]
def T_25 : List TE := T_25_0 ++ T_25_1
def T_26_0 : List TE := [(0, .aload_n 0, 1, 0, 0, 0, 0), (1, .invokespecial 3, 3, 5, 0, 94, 0), (4, .aload_n 0, 1, 0, 0, 0, 0), (5, .iconst 3, 1, 0, 0, 0, 0), (6, .newarray .int, 2, 0, 0, 0, 0), (8, .putfield 9, 3, 4, 0, 95, 0), (11, .aload_n 0, 1, 0, 0, 0, 0), (12, .iconst 3, 1, 0, 0, 0, 0), (13, .newarray .int, 2, 0, 0, 0, 0), (15, .putfield 15, 3, 4, 1, 98, 0), (18, .aload_n 0, 1, 0, 0, 0, 0), (19, .iconst 3, 1, 0, 0, 0, 0), (20, .newarray .int, 2, 0, 0, 0, 0), (22, .putfield 18, 3, 4, 2, 101, 0), (25, .aload_n 0, 1, 0, 0, 0, 0), (26, .iconst 3, 1, 0, 0, 0, 0), (27, .newarray .int, 2, 0, 0, 0, 0), (29, .putfield 21, 3, 4, 3, 104, 0), (32, .aload_n 0, 1, 0, 0, 0, 0), (33, .bipush 8, 2, 0, 0, 0, 0), (35, .newarray .int, 2, 0, 0, 0, 0), (37, .putfield 24, 3, 4, 4, 106, 0), (40, .return_, 1, 0, 0, 0, 0)]
def T_26 : List TE := T_26_0
def T_27_0 : List TE := [(0, .aload_n 0, 1, 0, 0, 0, 0), (1, .iconst 0, 1, 0, 0, 0, 0), (2, .putfield 27, 3, 4, 5, 108, 0), (5, .aload_n 0, 1, 0, 0, 0, 0), (6, .iconst 0, 1, 0, 0, 0, 0), (7, .putfield 31, 3, 4, 6, 110, 0), (10, .aload_n 0, 1, 0, 0, 0, 0), (11, .iconst 0, 1, 0, 0, 0, 0), (12, .putfield 34, 3, 4, 7, 113, 0), (15, .aload_n 0, 1, 0, 0, 0, 0), (16, .iconst 0, 1, 0, 0, 0, 0), (17, .putfield 37, 3, 4, 8, 117, 0), (20, .return_, 1, 0, 0, 0, 0)]
def T_27 : List TE := T_27_0
def T_28_0 : List TE := [(0, .aload_n 1, 1, 0, 0, 0, 0), (1, .getfield 9, 3, 4, 0, 95, 0), (4, .aload_n 0, 1, 0, 0, 0, 0), (5, .getfield 9, 3, 4, 0, 95, 0), (8, .invokestatic 41, 3, 2, 84, 32, 2), (11, .aload_n 1, 1, 0, 0, 0, 0), (12, .getfield 15, 3, 4, 1, 98, 0), (15, .aload_n 0, 1, 0, 0, 0, 0), (16, .getfield 15, 3, 4, 1, 98, 0), (19, .invokestatic 41, 3, 2, 84, 32, 2), (22, .aload_n 1, 1, 0, 0, 0, 0), (23, .getfield 18, 3, 4, 2, 101, 0), (26, .aload_n 0, 1, 0, 0, 0, 0), (27, .getfield 18, 3, 4, 2, 101, 0), (30, .invokestatic 41, 3, 2, 84, 32, 2), (33, .aload_n 1, 1, 0, 0, 0, 0), (34, .getfield 21, 3, 4, 3, 104, 0), (37, .aload_n 0, 1, 0, 0, 0, 0), (38, .getfield 21, 3, 4, 3, 104, 0), (41, .invokestatic 41, 3, 2, 84, 32, 2), (44, .aload_n 1, 1, 0, 0, 0, 0), (45, .getfield 24, 3, 4, 4, 106, 0), (48, .aload_n 0, 1, 0, 0, 0, 0), (49, .getfield 24, 3, 4, 4, 106, 0), (52, .invokestatic 41, 3, 2, 84, 32, 2), (55, .aload_n 0, 1, 0, 0, 0, 0), (56, .aload_n 1, 1, 0, 0, 0, 0), (57, .getfield 27, 3, 4, 5, 108, 0), (60, .putfield 27, 3, 4, 5, 108, 0), (63, .aload_n 0, 1, 0, 0, 0, 0), (64, .aload_n 1, 1, 0, 0, 0, 0), (65, .getfield 31, 3, 4, 6, 110, 0), (68, .putfield 31, 3, 4, 6, 110, 0), (71, .aload_n 0, 1, 0, 0, 0, 0), (72, .aload_n 1, 1, 0, 0, 0, 0), (73, .getfield 34, 3, 4, 7, 113, 0), (76, .putfield 34, 3, 4, 7, 113, 0), (79, .aload_n 0, 1, 0, 0, 0, 0), (80, .aload_n 1, 1, 0, 0, 0, 0), (81, .getfield 37, 3, 4, 8, 117, 0)]
def T_28_1 : List TE := [(84, .putfield 37, 3, 4, 8, 117, 0), (87, .return_, 1, 0, 0, 0, 0)]
def T_28 : List TE := T_28_0 ++ T_28_1
def T_29_0 : List TE := [(0, .iload_n 1, 1, 0, 0, 0, 0), (1, .ifCond .lt 15, 3, 16, 0, 0, 0), (4, .iload_n 1, 1, 0, 0, 0, 0), (5, .aload_n 0, 1, 0, 0, 0, 0), (6, .getfield 27, 3, 4, 5, 108, 0), (9, .if_icmp .ge 7, 3, 16, 0, 0, 0), (12, .iconst 1, 1, 0, 0, 0, 0), (13, .goto 4, 3, 17, 0, 0, 0), (16, .iconst 0, 1, 0, 0, 0, 0), (17, .ireturn, 1, 0, 0, 0, 0)]
def T_29 : List TE := T_29_0
def T_30_0 : List TE := [(0, .iload_n 1, 1, 0, 0, 0, 0), (1, .ifCond .lt 15, 3, 16, 0, 0, 0), (4, .iload_n 1, 1, 0, 0, 0, 0), (5, .aload_n 0, 1, 0, 0, 0, 0), (6, .getfield 31, 3, 4, 6, 110, 0), (9, .if_icmp .ge 7, 3, 16, 0, 0, 0), (12, .iconst 1, 1, 0, 0, 0, 0), (13, .goto 4, 3, 17, 0, 0, 0), (16, .iconst 0, 1, 0, 0, 0, 0), (17, .ireturn, 1, 0, 0, 0, 0)]
def T_30 : List TE := T_30_0
def T_31_0 : List TE := [(0, .aload_n 0, 1, 0, 0, 0, 0), (1, .getfield 9, 3, 4, 0, 95, 0), (4, .aload_n 0, 1, 0, 0, 0, 0), (5, .getfield 27, 3, 4, 5, 108, 0), (8, .iload_n 1, 1, 0, 0, 0, 0), (9, .invokestatic 45, 3, 2, 82, 17, 3), (12, .aload_n 0, 1, 0, 0, 0, 0), (13, .getfield 15, 3, 4, 1, 98, 0), (16, .aload_n 0, 1, 0, 0, 0, 0), (17, .getfield 27, 3, 4, 5, 108, 0), (20, .iload_n 2, 1, 0, 0, 0, 0), (21, .invokestatic 45, 3, 2, 82, 17, 3), (24, .aload_n 0, 1, 0, 0, 0, 0), (25, .dup, 1, 0, 0, 0, 0), (26, .getfield 27, 3, 4, 5, 108, 0), (29, .iconst 1, 1, 0, 0, 0, 0), (30, .iadd, 1, 0, 0, 0, 0), (31, .putfield 27, 3, 4, 5, 108, 0), (34, .aload_n 0, 1, 0, 0, 0, 0), (35, .getfield 27, 3, 4, 5, 108, 0), (38, .iconst 1, 1, 0, 0, 0, 0), (39, .isub, 1, 0, 0, 0, 0), (40, .ireturn, 1, 0, 0, 0, 0)]
def T_31 : List TE := T_31_0
def T_32_0 : List TE := [(0, .aload_n 0, 1, 0, 0, 0, 0), (1, .getfield 18, 3, 4, 2, 101, 0), (4, .aload_n 0, 1, 0, 0, 0, 0), (5, .getfield 31, 3, 4, 6, 110, 0), (8, .iload_n 1, 1, 0, 0, 0, 0), (9, .invokestatic 45, 3, 2, 82, 17, 3), (12, .aload_n 0, 1, 0, 0, 0, 0), (13, .getfield 21, 3, 4, 3, 104, 0), (16, .aload_n 0, 1, 0, 0, 0, 0), (17, .getfield 31, 3, 4, 6, 110, 0), (20, .iconst 0, 1, 0, 0, 0, 0), (21, .invokestatic 45, 3, 2, 82, 17, 3), (24, .aload_n 0, 1, 0, 0, 0, 0), (25, .dup, 1, 0, 0, 0, 0), (26, .getfield 31, 3, 4, 6, 110, 0), (29, .iconst 1, 1, 0, 0, 0, 0), (30, .iadd, 1, 0, 0, 0, 0), (31, .putfield 31, 3, 4, 6, 110, 0), (34, .aload_n 0, 1, 0, 0, 0, 0), (35, .getfield 31, 3, 4, 6, 110, 0), (38, .iconst 1, 1, 0, 0, 0, 0), (39, .isub, 1, 0, 0, 0, 0), (40, .ireturn, 1, 0, 0, 0, 0)]
def T_32 : List TE := T_32_0
def T_33_0 : List TE := [(0, .aload_n 0, 1, 0, 0, 0, 0), (1, .getfield 24, 3, 4, 4, 106, 0), (4, .aload_n 0, 1, 0, 0, 0, 0), (5, .getfield 34, 3, 4, 7, 113, 0), (8, .iload_n 1, 1, 0, 0, 0, 0), (9, .invokestatic 45, 3, 2, 82, 17, 3), (12, .aload_n 0, 1, 0, 0, 0, 0), (13, .dup, 1, 0, 0, 0, 0), (14, .getfield 34, 3, 4, 7, 113, 0), (17, .iconst 1, 1, 0, 0, 0, 0), (18, .iadd, 1, 0, 0, 0, 0), (19, .putfield 34, 3, 4, 7, 113, 0), (22, .return_, 1, 0, 0, 0, 0)]
def T_33 : List TE := T_33_0
def T_34_0 : List TE := [(0, .iconst 0, 1, 0, 0, 0, 0), (1, .istore_n 2, 1, 0, 0, 0, 0), (2, .iconst 0, 1, 0, 0, 0, 0), (3, .istore_n 3, 1, 0, 0, 0, 0), (4, .iload_n 3, 1, 0, 0, 0, 0), (5, .aload_n 0, 1, 0, 0, 0, 0), (6, .getfield 31, 3, 4, 6, 110, 0), (9, .if_icmp .ge 32, 3, 41, 0, 0, 0), (12, .iload_n 2, 1, 0, 0, 0, 0), (13, .aload_n 0, 1, 0, 0, 0, 0), (14, .getfield 18, 3, 4, 2, 101, 0), (17, .iload_n 3, 1, 0, 0, 0, 0), (18, .invokestatic 49, 3, 2, 81, 15, 2), (21, .iload_n 1, 1, 0, 0, 0, 0), (22, .if_icmp .ne 7, 3, 29, 0, 0, 0), (25, .iconst 1, 1, 0, 0, 0, 0), (26, .goto 4, 3, 30, 0, 0, 0), (29, .iconst 0, 1, 0, 0, 0, 0), (30, .invokestatic 53, 3, 2, 79, 16, 1), (33, .iadd, 1, 0, 0, 0, 0), (34, .istore_n 2, 1, 0, 0, 0, 0), (35, .iinc 3 1, 3, 0, 0, 0, 0), (38, .goto (-34), 3, 4, 0, 0, 0), (41, .iload_n 2, 1, 0, 0, 0, 0), (42, .ireturn, 1, 0, 0, 0, 0)]
def T_34 : List TE := T_34_0
def T_35_0 : List TE := [(0, .iconst 0, 1, 0, 0, 0, 0), (1, .istore_n 1, 1, 0, 0, 0, 0), (2, .iconst 0, 1, 0, 0, 0, 0), (3, .istore_n 2, 1, 0, 0, 0, 0), (4, .iload_n 2, 1, 0, 0, 0, 0), (5, .aload_n 0, 1, 0, 0, 0, 0), (6, .getfield 31, 3, 4, 6, 110, 0), (9, .if_icmp .ge 20, 3, 29, 0, 0, 0), (12, .iload_n 1, 1, 0, 0, 0, 0), (13, .aload_n 0, 1, 0, 0, 0, 0), (14, .getfield 21, 3, 4, 3, 104, 0), (17, .iload_n 2, 1, 0, 0, 0, 0), (18, .invokestatic 49, 3, 2, 81, 15, 2), (21, .iadd, 1, 0, 0, 0, 0), (22, .istore_n 1, 1, 0, 0, 0, 0), (23, .iinc 2 1, 3, 0, 0, 0, 0), (26, .goto (-22), 3, 4, 0, 0, 0), (29, .iload_n 1, 1, 0, 0, 0, 0), (30, .ireturn, 1, 0, 0, 0, 0)]
def T_35 : List TE := T_35_0
def T_36_0 : List TE := [(0, .aload_n 0, 1, 0, 0, 0, 0), (1, .invokespecial 3, 3, 5, 0, 143, 0), (4, .return_, 1, 0, 0, 0, 0)]
def T_36 : List TE := T_36_0
def T_37_0 : List TE := [(0, .aload_n 0, 1, 0, 0, 0, 0), (1, .aload_n 1, 1, 0, 0, 0, 0), (2, .aload_n 2, 1, 0, 0, 0, 0), (3, .getfield 9, 3, 4, 8, 116, 0), (6, .iload 4, 2, 0, 0, 0, 0), (8, .aload_n 2, 1, 0, 0, 0, 0), (9, .getfield 15, 3, 4, 0, 96, 0), (12, .iload_n 3, 1, 0, 0, 0, 0), (13, .invokestatic 19, 3, 2, 81, 12, 2), (16, .aload_n 2, 1, 0, 0, 0, 0), (17, .getfield 23, 3, 4, 1, 99, 0), (20, .iload_n 3, 1, 0, 0, 0, 0), (21, .invokestatic 19, 3, 2, 81, 12, 2), (24, .invokevirtual 26, 3, 0, 38, 420, 5), (27, .return_, 1, 0, 0, 0, 0)]
def T_37 : List TE := T_37_0
def T_38_0 : List TE := [(0, .aload_n 0, 1, 0, 0, 0, 0), (1, .iconst 0, 1, 0, 0, 0, 0), (2, .putfield 32, 3, 5, 0, 144, 0), (5, .aload_n 0, 1, 0, 0, 0, 0), (6, .iconst 0, 1, 0, 0, 0, 0), (7, .putfield 36, 3, 5, 1, 146, 0), (10, .aload_n 0, 1, 0, 0, 0, 0), (11, .iconst 0, 1, 0, 0, 0, 0), (12, .putfield 39, 3, 5, 2, 148, 0), (15, .iload 4, 2, 0, 0, 0, 0), (17, .istore 6, 2, 0, 0, 0, 0), (19, .iload 5, 2, 0, 0, 0, 0), (21, .istore 7, 2, 0, 0, 0, 0), (23, .iconst 0, 1, 0, 0, 0, 0), (24, .istore 8, 2, 0, 0, 0, 0), (26, .iload 8, 2, 0, 0, 0, 0), (28, .sipush 1000, 3, 0, 0, 0, 0), (31, .if_icmp .ge 115, 3, 146, 0, 0, 0), (34, .iload 6, 2, 0, 0, 0, 0), (36, .iload 7, 2, 0, 0, 0, 0), (38, .invokestatic 42, 3, 1, 11, 424, 2), (41, .istore 6, 2, 0, 0, 0, 0), (43, .aload_n 1, 1, 0, 0, 0, 0), (44, .iload 6, 2, 0, 0, 0, 0), (46, .invokevirtual 48, 3, 0, 6, 427, 1), (49, .istore 9, 2, 0, 0, 0, 0), (51, .iload 9, 2, 0, 0, 0, 0), (53, .ifCond .ne 12, 3, 65, 0, 0, 0), (56, .aload_n 0, 1, 0, 0, 0, 0), (57, .iload 6, 2, 0, 0, 0, 0), (59, .invokevirtual 52, 3, 0, 39, 428, 1), (62, .goto 78, 3, 140, 0, 0, 0), (65, .iload 9, 2, 0, 0, 0, 0), (67, .iload_n 2, 1, 0, 0, 0, 0), (68, .iload_n 3, 1, 0, 0, 0, 0), (69, .iload 6, 2, 0, 0, 0, 0), (71, .invokestatic 56, 3, 2, 80, 13, 2), (74, .iconst 1, 1, 0, 0, 0, 0), (75, .if_icmp .ne 7, 3, 82, 0, 0, 0), (78, .iconst 1, 1, 0, 0, 0, 0)]
def T_38_1 : List TE := [(79, .goto 4, 3, 83, 0, 0, 0), (82, .iconst 0, 1, 0, 0, 0, 0), (83, .invokestatic 59, 3, 1, 40, 435, 3), (86, .istore 10, 2, 0, 0, 0, 0), (88, .iload 10, 2, 0, 0, 0, 0), (90, .iconst (-1), 1, 0, 0, 0, 0), (91, .if_icmp .eq 19, 3, 110, 0, 0, 0), (94, .iload 10, 2, 0, 0, 0, 0), (96, .ifCond .eq 15, 3, 111, 0, 0, 0), (99, .aload_n 0, 1, 0, 0, 0, 0), (100, .getfield 39, 3, 5, 2, 148, 0), (103, .aload_n 1, 1, 0, 0, 0, 0), (104, .getfield 63, 3, 1, 2, 80, 0), (107, .if_icmp .lt 4, 3, 111, 0, 0, 0), (110, .return_, 1, 0, 0, 0, 0), (111, .iload 7, 2, 0, 0, 0, 0), (113, .iload 10, 2, 0, 0, 0, 0), (115, .ixor, 1, 0, 0, 0, 0), (116, .istore 7, 2, 0, 0, 0, 0), (118, .aload_n 0, 1, 0, 0, 0, 0), (119, .dup, 1, 0, 0, 0, 0), (120, .getfield 39, 3, 5, 2, 148, 0), (123, .iload 10, 2, 0, 0, 0, 0), (125, .ifCond .eq 7, 3, 132, 0, 0, 0), (128, .iconst 1, 1, 0, 0, 0, 0), (129, .goto 4, 3, 133, 0, 0, 0), (132, .iconst 0, 1, 0, 0, 0, 0), (133, .invokestatic 66, 3, 2, 79, 14, 1), (136, .iadd, 1, 0, 0, 0, 0), (137, .putfield 39, 3, 5, 2, 148, 0), (140, .iinc 8 1, 3, 0, 0, 0, 0), (143, .goto (-117), 3, 26, 0, 0, 0), (146, .return_, 1, 0, 0, 0, 0)]
def T_38 : List TE := T_38_0 ++ T_38_1
def T_39_0 : List TE := [(0, .aload_n 0, 1, 0, 0, 0, 0), (1, .getfield 32, 3, 5, 0, 144, 0), (4, .iload_n 1, 1, 0, 0, 0, 0), (5, .invokestatic 56, 3, 2, 80, 13, 2), (8, .ifCond .ne 32, 3, 40, 0, 0, 0), (11, .aload_n 0, 1, 0, 0, 0, 0), (12, .dup, 1, 0, 0, 0, 0), (13, .getfield 32, 3, 5, 0, 144, 0), (16, .iconst 1, 1, 0, 0, 0, 0), (17, .iload_n 1, 1, 0, 0, 0, 0), (18, .ishl, 1, 0, 0, 0, 0), (19, .ior, 1, 0, 0, 0, 0), (20, .putfield 32, 3, 5, 0, 144, 0), (23, .aload_n 0, 1, 0, 0, 0, 0), (24, .dup, 1, 0, 0, 0, 0), (25, .getfield 36, 3, 5, 1, 146, 0), (28, .aload_n 0, 1, 0, 0, 0, 0), (29, .getfield 39, 3, 5, 2, 148, 0), (32, .iconst 1, 1, 0, 0, 0, 0), (33, .iand, 1, 0, 0, 0, 0), (34, .iload_n 1, 1, 0, 0, 0, 0), (35, .ishl, 1, 0, 0, 0, 0), (36, .ior, 1, 0, 0, 0, 0), (37, .putfield 36, 3, 5, 1, 146, 0), (40, .return_, 1, 0, 0, 0, 0)]
def T_39 : List TE := T_39_0
def T_40_0 : List TE := [(0, .iload_n 0, 1, 0, 0, 0, 0), (1, .tableswitch 63 2 5 #[31, 41, 51, 53], 31, 0, 0, 0, 0), (32, .iload_n 2, 1, 0, 0, 0, 0), (33, .ifCond .eq 7, 3, 40, 0, 0, 0), (36, .iconst 1, 1, 0, 0, 0, 0), (37, .goto 4, 3, 41, 0, 0, 0), (40, .iconst 3, 1, 0, 0, 0, 0), (41, .ireturn, 1, 0, 0, 0, 0), (42, .iload_n 2, 1, 0, 0, 0, 0), (43, .ifCond .eq 7, 3, 50, 0, 0, 0), (46, .iconst 3, 1, 0, 0, 0, 0), (47, .goto 4, 3, 51, 0, 0, 0), (50, .iconst 1, 1, 0, 0, 0, 0), (51, .ireturn, 1, 0, 0, 0, 0), (52, .iconst 2, 1, 0, 0, 0, 0), (53, .ireturn, 1, 0, 0, 0, 0), (54, .iload_n 1, 1, 0, 0, 0, 0), (55, .ifCond .eq 7, 3, 62, 0, 0, 0), (58, .iconst 2, 1, 0, 0, 0, 0), (59, .goto 4, 3, 63, 0, 0, 0), (62, .iconst 0, 1, 0, 0, 0, 0), (63, .ireturn, 1, 0, 0, 0, 0), (64, .iconst (-1), 1, 0, 0, 0, 0), (65, .ireturn, 1, 0, 0, 0, 0)]
def T_40 : List TE := T_40_0
def T_41_0 : List TE := [(0, .aload_n 0, 1, 0, 0, 0, 0), (1, .invokespecial 3, 3, 5, 0, 162, 0), (4, .aload_n 0, 1, 0, 0, 0, 0), (5, .bipush 12, 2, 0, 0, 0, 0), (7, .newarray .int, 2, 0, 0, 0, 0), (9, .putfield 9, 3, 6, 0, 163, 0), (12, .aload_n 0, 1, 0, 0, 0, 0), (13, .bipush 12, 2, 0, 0, 0, 0), (15, .newarray .int, 2, 0, 0, 0, 0), (17, .putfield 15, 3, 6, 1, 164, 0), (20, .return_, 1, 0, 0, 0, 0)]
def T_41 : List TE := T_41_0
def T_42_0 : List TE := [(0, .aload_n 0, 1, 0, 0, 0, 0), (1, .getfield 9, 3, 6, 0, 163, 0), (4, .ldc 18, 2, 0, 0, 522, 1000000), (6, .invokestatic 19, 3, 2, 83, 18, 2), (9, .aload_n 0, 1, 0, 0, 0, 0), (10, .getfield 15, 3, 6, 1, 164, 0), (13, .iconst (-1), 1, 0, 0, 0, 0), (14, .invokestatic 19, 3, 2, 83, 18, 2), (17, .aload_n 0, 1, 0, 0, 0, 0), (18, .getfield 9, 3, 6, 0, 163, 0), (21, .iload_n 3, 1, 0, 0, 0, 0), (22, .iconst 0, 1, 0, 0, 0, 0), (23, .invokestatic 23, 3, 2, 82, 19, 3), (26, .iconst 0, 1, 0, 0, 0, 0), (27, .istore 4, 2, 0, 0, 0, 0), (29, .iload 4, 2, 0, 0, 0, 0), (31, .bipush 12, 2, 0, 0, 0, 0), (33, .if_icmp .ge 39, 3, 72, 0, 0, 0), (36, .iconst 0, 1, 0, 0, 0, 0), (37, .istore 5, 2, 0, 0, 0, 0), (39, .iload 5, 2, 0, 0, 0, 0), (41, .bipush 12, 2, 0, 0, 0, 0), (43, .if_icmp .ge 23, 3, 66, 0, 0, 0), (46, .iload 5, 2, 0, 0, 0, 0), (48, .iload_n 3, 1, 0, 0, 0, 0), (49, .if_icmp .eq 11, 3, 60, 0, 0, 0), (52, .aload_n 0, 1, 0, 0, 0, 0), (53, .aload_n 1, 1, 0, 0, 0, 0), (54, .iload_n 2, 1, 0, 0, 0, 0), (55, .iload 5, 2, 0, 0, 0, 0), (57, .invokevirtual 27, 3, 0, 47, 527, 3), (60, .iinc 5 1, 3, 0, 0, 0, 0), (63, .goto (-24), 3, 39, 0, 0, 0), (66, .iinc 4 1, 3, 0, 0, 0, 0), (69, .goto (-40), 3, 29, 0, 0, 0), (72, .return_, 1, 0, 0, 0, 0)]
def T_42 : List TE := T_42_0
def T_43_0 : List TE := [(0, .aload_n 0, 1, 0, 0, 0, 0), (1, .getfield 9, 3, 6, 0, 163, 0), (4, .iload_n 1, 1, 0, 0, 0, 0), (5, .invokestatic 31, 3, 2, 81, 20, 2), (8, .ldc 18, 2, 0, 0, 522, 1000000), (10, .if_icmp .ge 7, 3, 17, 0, 0, 0), (13, .iconst 1, 1, 0, 0, 0, 0), (14, .goto 4, 3, 18, 0, 0, 0), (17, .iconst 0, 1, 0, 0, 0, 0), (18, .ireturn, 1, 0, 0, 0, 0)]
def T_43 : List TE := T_43_0
def T_44_0 : List TE := [(0, .aload_n 0, 1, 0, 0, 0, 0), (1, .getfield 9, 3, 6, 0, 163, 0), (4, .iload_n 1, 1, 0, 0, 0, 0), (5, .invokestatic 31, 3, 2, 81, 20, 2), (8, .bipush 100, 2, 0, 0, 0, 0), (10, .idiv, 1, 0, 0, 0, 0), (11, .ireturn, 1, 0, 0, 0, 0)]
def T_44 : List TE := T_44_0
def T_45_0 : List TE := [(0, .aload_n 0, 1, 0, 0, 0, 0), (1, .getfield 9, 3, 6, 0, 163, 0), (4, .iload_n 1, 1, 0, 0, 0, 0), (5, .invokestatic 31, 3, 2, 81, 20, 2), (8, .bipush 100, 2, 0, 0, 0, 0), (10, .irem, 1, 0, 0, 0, 0), (11, .ireturn, 1, 0, 0, 0, 0)]
def T_45 : List TE := T_45_0
def T_46_0 : List TE := [(0, .aload_n 0, 1, 0, 0, 0, 0), (1, .getfield 15, 3, 6, 1, 164, 0), (4, .iload_n 1, 1, 0, 0, 0, 0), (5, .invokestatic 31, 3, 2, 81, 20, 2), (8, .ireturn, 1, 0, 0, 0, 0)]
def T_46 : List TE := T_46_0
def T_47_0 : List TE := [(0, .ldc 18, 2, 0, 0, 522, 1000000), (2, .istore 4, 2, 0, 0, 0, 0), (4, .iconst 0, 1, 0, 0, 0, 0), (5, .istore 5, 2, 0, 0, 0, 0), (7, .iload 5, 2, 0, 0, 0, 0), (9, .iconst 4, 1, 0, 0, 0, 0), (10, .if_icmp .ge 73, 3, 83, 0, 0, 0), (13, .aload_n 1, 1, 0, 0, 0, 0), (14, .iload_n 3, 1, 0, 0, 0, 0), (15, .iload 5, 2, 0, 0, 0, 0), (17, .invokevirtual 35, 3, 0, 10, 531, 2), (20, .istore 6, 2, 0, 0, 0, 0), (22, .iload 6, 2, 0, 0, 0, 0), (24, .iconst (-1), 1, 0, 0, 0, 0), (25, .if_icmp .ne 8, 3, 33, 0, 0, 0), (28, .ldc 18, 2, 0, 0, 522, 1000000), (30, .goto 24, 3, 54, 0, 0, 0), (33, .aload_n 0, 1, 0, 0, 0, 0), (34, .getfield 9, 3, 6, 0, 163, 0), (37, .iload 6, 2, 0, 0, 0, 0), (39, .invokestatic 31, 3, 2, 81, 20, 2), (42, .iconst 1, 1, 0, 0, 0, 0), (43, .iadd, 1, 0, 0, 0, 0), (44, .bipush 100, 2, 0, 0, 0, 0), (46, .iload_n 2, 1, 0, 0, 0, 0), (47, .iload 6, 2, 0, 0, 0, 0), (49, .invokestatic 41, 3, 2, 80, 21, 2), (52, .imul, 1, 0, 0, 0, 0), (53, .iadd, 1, 0, 0, 0, 0), (54, .istore 7, 2, 0, 0, 0, 0), (56, .iload 7, 2, 0, 0, 0, 0), (58, .iload 4, 2, 0, 0, 0, 0), (60, .if_icmp .ge 17, 3, 77, 0, 0, 0), (63, .iload 7, 2, 0, 0, 0, 0), (65, .istore 4, 2, 0, 0, 0, 0), (67, .aload_n 0, 1, 0, 0, 0, 0), (68, .getfield 15, 3, 6, 1, 164, 0), (71, .iload_n 3, 1, 0, 0, 0, 0), (72, .iload 5, 2, 0, 0, 0, 0), (74, .invokestatic 23, 3, 2, 82, 19, 3)]
def T_47_1 : List TE := [(77, .iinc 5 1, 3, 0, 0, 0, 0), (80, .goto (-73), 3, 7, 0, 0, 0), (83, .aload_n 0, 1, 0, 0, 0, 0), (84, .getfield 9, 3, 6, 0, 163, 0), (87, .iload_n 3, 1, 0, 0, 0, 0), (88, .iload 4, 2, 0, 0, 0, 0), (90, .invokestatic 23, 3, 2, 82, 19, 3), (93, .return_, 1, 0, 0, 0, 0)]
def T_47 : List TE := T_47_0 ++ T_47_1
def T_48_0 : List TE := [(0, .aload_n 0, 1, 0, 0, 0, 0), (1, .invokespecial 1, 3, 5, 0, 51, 0), (4, .aload_n 0, 1, 0, 0, 0, 0), (5, .new 7, 3, 2, 55, 54, 31), (8, .dup, 1, 0, 0, 0, 0), (9, .invokespecial 9, 3, 4, 12, 0, 0), (12, .putfield 10, 3, 7, 0, 202, 0), (15, .aload_n 0, 1, 0, 0, 0, 0), (16, .new 16, 3, 1, 71, 70, 32), (19, .dup, 1, 0, 0, 0, 0), (20, .invokespecial 18, 3, 4, 3, 1, 0), (23, .putfield 19, 3, 7, 1, 203, 0), (26, .aload_n 0, 1, 0, 0, 0, 0), (27, .new 23, 3, 4, 90, 89, 33), (30, .dup, 1, 0, 0, 0, 0), (31, .invokespecial 25, 3, 4, 26, 2, 0), (34, .putfield 26, 3, 7, 2, 204, 0), (37, .aload_n 0, 1, 0, 0, 0, 0), (38, .new 23, 3, 4, 90, 89, 33), (41, .dup, 1, 0, 0, 0, 0), (42, .invokespecial 25, 3, 4, 26, 2, 0), (45, .putfield 30, 3, 7, 3, 205, 0), (48, .aload_n 0, 1, 0, 0, 0, 0), (49, .new 33, 3, 5, 139, 138, 34), (52, .dup, 1, 0, 0, 0, 0), (53, .invokespecial 35, 3, 4, 36, 3, 0), (56, .putfield 36, 3, 7, 4, 206, 0), (59, .aload_n 0, 1, 0, 0, 0, 0), (60, .new 40, 3, 6, 158, 157, 35), (63, .dup, 1, 0, 0, 0, 0), (64, .invokespecial 42, 3, 4, 41, 4, 0), (67, .putfield 43, 3, 7, 5, 207, 0), (70, .aload_n 0, 1, 0, 0, 0, 0), (71, .new 47, 3, 3, 171, 170, 36), (74, .dup, 1, 0, 0, 0, 0), (75, .invokespecial 49, 3, 4, 21, 5, 0), (78, .putfield 50, 3, 7, 6, 208, 0), (81, .aload_n 0, 1, 0, 0, 0, 0), (82, .new 54, 3, 0, 184, 183, 37), (85, .dup, 1, 0, 0, 0, 0)]
def T_48_1 : List TE := [(86, .invokespecial 56, 3, 4, 0, 6, 0), (89, .putfield 57, 3, 7, 7, 209, 0), (92, .return_, 1, 0, 0, 0, 0)]
def T_48 : List TE := T_48_0 ++ T_48_1
def T_49_0 : List TE := [(0, .iload_n 1, 1, 0, 0, 0, 0), (1, .iconst 1, 1, 0, 0, 0, 0), (2, .if_icmp .lt 9, 3, 11, 0, 0, 0), (5, .iload_n 1, 1, 0, 0, 0, 0), (6, .bipush 126, 2, 0, 0, 0, 0), (8, .if_icmp .le 6, 3, 14, 0, 0, 0), (11, .bipush (-102), 2, 0, 0, 0, 0), (13, .ireturn, 1, 0, 0, 0, 0), (14, .aload_n 0, 1, 0, 0, 0, 0), (15, .getfield 10, 3, 7, 0, 202, 0), (18, .getfield 61, 3, 2, 1, 63, 0), (21, .bipush 18, 2, 0, 0, 0, 0), (23, .if_icmp .lt 6, 3, 29, 0, 0, 0), (26, .bipush (-104), 2, 0, 0, 0, 0), (28, .ireturn, 1, 0, 0, 0, 0), (29, .aload_n 0, 1, 0, 0, 0, 0), (30, .getfield 10, 3, 7, 0, 202, 0), (33, .iload_n 1, 1, 0, 0, 0, 0), (34, .invokevirtual 65, 3, 0, 13, 240, 1), (37, .aload_n 0, 1, 0, 0, 0, 0), (38, .getfield 10, 3, 7, 0, 202, 0), (41, .getfield 61, 3, 2, 1, 63, 0), (44, .ireturn, 1, 0, 0, 0, 0)]
def T_49 : List TE := T_49_0
def T_50_0 : List TE := [(0, .aload_n 0, 1, 0, 0, 0, 0), (1, .getfield 10, 3, 7, 0, 202, 0), (4, .getfield 61, 3, 2, 1, 63, 0), (7, .istore_n 1, 1, 0, 0, 0, 0), (8, .aload_n 0, 1, 0, 0, 0, 0), (9, .getfield 10, 3, 7, 0, 202, 0), (12, .invokevirtual 69, 3, 0, 14, 251, 0), (15, .iload_n 1, 1, 0, 0, 0, 0), (16, .ireturn, 1, 0, 0, 0, 0)]
def T_50 : List TE := T_50_0
def T_51_0 : List TE := [(0, .aload_n 0, 1, 0, 0, 0, 0), (1, .getfield 10, 3, 7, 0, 202, 0), (4, .invokevirtual 72, 3, 0, 16, 259, 0), (7, .ireturn, 1, 0, 0, 0, 0)]
def T_51 : List TE := T_51_0
def T_52_0 : List TE := [(0, .aload_n 0, 1, 0, 0, 0, 0), (1, .getfield 10, 3, 7, 0, 202, 0), (4, .invokevirtual 76, 3, 0, 15, 364, 0), (7, .ifCond .ne 6, 3, 13, 0, 0, 0), (10, .bipush (-103), 2, 0, 0, 0, 0), (12, .ireturn, 1, 0, 0, 0, 0), (13, .aload_n 0, 1, 0, 0, 0, 0), (14, .getfield 19, 3, 7, 1, 203, 0), (17, .aload_n 0, 1, 0, 0, 0, 0), (18, .getfield 10, 3, 7, 0, 202, 0), (21, .invokevirtual 80, 3, 0, 4, 369, 1), (24, .aload_n 0, 1, 0, 0, 0, 0), (25, .getfield 10, 3, 7, 0, 202, 0), (28, .invokevirtual 69, 3, 0, 14, 251, 0), (31, .aload_n 0, 1, 0, 0, 0, 0), (32, .getfield 26, 3, 7, 2, 204, 0), (35, .invokevirtual 84, 3, 0, 27, 382, 0), (38, .aload_n 0, 1, 0, 0, 0, 0), (39, .iconst 0, 1, 0, 0, 0, 0), (40, .putfield 85, 3, 7, 8, 210, 0), (43, .aload_n 0, 1, 0, 0, 0, 0), (44, .dup, 1, 0, 0, 0, 0), (45, .getfield 89, 3, 7, 9, 211, 0), (48, .iconst 1, 1, 0, 0, 0, 0), (49, .iadd, 1, 0, 0, 0, 0), (50, .putfield 89, 3, 7, 9, 211, 0), (53, .aload_n 0, 1, 0, 0, 0, 0), (54, .getfield 19, 3, 7, 1, 203, 0), (57, .invokevirtual 92, 3, 0, 8, 386, 0), (60, .ireturn, 1, 0, 0, 0, 0)]
def T_52 : List TE := T_52_0
def T_53_0 : List TE := [(0, .aload_n 0, 1, 0, 0, 0, 0), (1, .getfield 19, 3, 7, 1, 203, 0), (4, .iload_n 1, 1, 0, 0, 0, 0), (5, .invokevirtual 95, 3, 0, 5, 406, 1), (8, .ifCond .ne 6, 3, 14, 0, 0, 0), (11, .bipush (-101), 2, 0, 0, 0, 0), (13, .ireturn, 1, 0, 0, 0, 0), (14, .iload_n 2, 1, 0, 0, 0, 0), (15, .tableswitch 61 0 3 #[29, 38, 45, 52], 29, 0, 0, 0, 0), (44, .aload_n 0, 1, 0, 0, 0, 0), (45, .getfield 19, 3, 7, 1, 203, 0), (48, .iload_n 1, 1, 0, 0, 0, 0), (49, .invokevirtual 99, 3, 0, 6, 407, 1), (52, .ireturn, 1, 0, 0, 0, 0), (53, .aload_n 0, 1, 0, 0, 0, 0), (54, .iload_n 1, 1, 0, 0, 0, 0), (55, .iconst 0, 1, 0, 0, 0, 0), (56, .invokevirtual 103, 3, 0, 73, 411, 2), (59, .ireturn, 1, 0, 0, 0, 0), (60, .aload_n 0, 1, 0, 0, 0, 0), (61, .iload_n 1, 1, 0, 0, 0, 0), (62, .iconst 1, 1, 0, 0, 0, 0), (63, .invokevirtual 103, 3, 0, 73, 411, 2), (66, .ireturn, 1, 0, 0, 0, 0), (67, .aload_n 0, 1, 0, 0, 0, 0), (68, .getfield 26, 3, 7, 2, 204, 0), (71, .iload_n 1, 1, 0, 0, 0, 0), (72, .invokevirtual 107, 3, 0, 34, 440, 1), (75, .ireturn, 1, 0, 0, 0, 0), (76, .bipush (-102), 2, 0, 0, 0, 0), (78, .ireturn, 1, 0, 0, 0, 0)]
def T_53 : List TE := T_53_0
def T_54_0 : List TE := [(0, .aload_n 0, 1, 0, 0, 0, 0), (1, .getfield 19, 3, 7, 1, 203, 0), (4, .iload_n 1, 1, 0, 0, 0, 0), (5, .invokevirtual 95, 3, 0, 5, 406, 1), (8, .ifCond .eq 15, 3, 23, 0, 0, 0), (11, .aload_n 0, 1, 0, 0, 0, 0), (12, .getfield 19, 3, 7, 1, 203, 0), (15, .iload_n 1, 1, 0, 0, 0, 0), (16, .invokevirtual 99, 3, 0, 6, 407, 1), (19, .iconst 2, 1, 0, 0, 0, 0), (20, .if_icmp .ge 6, 3, 26, 0, 0, 0), (23, .bipush (-101), 2, 0, 0, 0, 0), (25, .ireturn, 1, 0, 0, 0, 0), (26, .iload_n 2, 1, 0, 0, 0, 0), (27, .ifCond .lt 8, 3, 35, 0, 0, 0), (30, .iload_n 2, 1, 0, 0, 0, 0), (31, .iconst 5, 1, 0, 0, 0, 0), (32, .if_icmp .lt 6, 3, 38, 0, 0, 0), (35, .bipush (-102), 2, 0, 0, 0, 0), (37, .ireturn, 1, 0, 0, 0, 0), (38, .aload_n 0, 1, 0, 0, 0, 0), (39, .getfield 19, 3, 7, 1, 203, 0), (42, .iload_n 1, 1, 0, 0, 0, 0), (43, .invokevirtual 99, 3, 0, 6, 407, 1), (46, .iload_n 2, 1, 0, 0, 0, 0), (47, .iconst 2, 1, 0, 0, 0, 0), (48, .iadd, 1, 0, 0, 0, 0), (49, .invokestatic 110, 3, 1, 77, 450, 2), (52, .ifCond .eq 7, 3, 59, 0, 0, 0), (55, .iload_n 1, 1, 0, 0, 0, 0), (56, .goto 4, 3, 60, 0, 0, 0), (59, .iconst (-1), 1, 0, 0, 0, 0), (60, .ireturn, 1, 0, 0, 0, 0)]
def T_54 : List TE := T_54_0
def T_55_0 : List TE := [(0, .aload_n 0, 1, 0, 0, 0, 0), (1, .getfield 19, 3, 7, 1, 203, 0), (4, .getfield 114, 3, 1, 1, 78, 0), (7, .ifCond .ne 6, 3, 13, 0, 0, 0), (10, .bipush (-103), 2, 0, 0, 0, 0), (12, .ireturn, 1, 0, 0, 0, 0), (13, .aload_n 0, 1, 0, 0, 0, 0), (14, .getfield 26, 3, 7, 2, 204, 0), (17, .getfield 117, 3, 4, 8, 118, 0), (20, .invokestatic 120, 3, 1, 79, 457, 1), (23, .istore_n 2, 1, 0, 0, 0, 0), (24, .aload_n 0, 1, 0, 0, 0, 0), (25, .getfield 26, 3, 7, 2, 204, 0), (28, .iload_n 1, 1, 0, 0, 0, 0), (29, .putfield 117, 3, 4, 8, 118, 0), (32, .iload_n 2, 1, 0, 0, 0, 0), (33, .ireturn, 1, 0, 0, 0, 0)]
def T_55 : List TE := T_55_0
def T_56_0 : List TE := [(0, .aload_n 0, 1, 0, 0, 0, 0), (1, .getfield 19, 3, 7, 1, 203, 0), (4, .iload_n 1, 1, 0, 0, 0, 0), (5, .invokevirtual 95, 3, 0, 5, 406, 1), (8, .ifCond .ne 6, 3, 14, 0, 0, 0), (11, .bipush (-101), 2, 0, 0, 0, 0), (13, .ireturn, 1, 0, 0, 0, 0), (14, .iload_n 2, 1, 0, 0, 0, 0), (15, .invokestatic 124, 3, 1, 78, 462, 1), (18, .ifCond .ne 6, 3, 24, 0, 0, 0), (21, .bipush (-102), 2, 0, 0, 0, 0), (23, .ireturn, 1, 0, 0, 0, 0), (24, .aload_n 0, 1, 0, 0, 0, 0), (25, .getfield 19, 3, 7, 1, 203, 0), (28, .iload_n 1, 1, 0, 0, 0, 0), (29, .invokevirtual 127, 3, 0, 7, 465, 1), (32, .ifCond .ne 6, 3, 38, 0, 0, 0), (35, .bipush (-103), 2, 0, 0, 0, 0), (37, .ireturn, 1, 0, 0, 0, 0), (38, .aload_n 0, 1, 0, 0, 0, 0), (39, .getfield 26, 3, 7, 2, 204, 0), (42, .getfield 130, 3, 4, 5, 109, 0), (45, .iconst 3, 1, 0, 0, 0, 0), (46, .if_icmp .lt 6, 3, 52, 0, 0, 0), (49, .bipush (-104), 2, 0, 0, 0, 0), (51, .ireturn, 1, 0, 0, 0, 0), (52, .aload_n 0, 1, 0, 0, 0, 0), (53, .getfield 26, 3, 7, 2, 204, 0), (56, .iload_n 1, 1, 0, 0, 0, 0), (57, .iload_n 2, 1, 0, 0, 0, 0), (58, .invokevirtual 133, 3, 0, 31, 466, 2), (61, .ireturn, 1, 0, 0, 0, 0)]
def T_56 : List TE := T_56_0
def T_57_0 : List TE := [(0, .aload_n 0, 1, 0, 0, 0, 0), (1, .getfield 26, 3, 7, 2, 204, 0), (4, .iload_n 1, 1, 0, 0, 0, 0), (5, .invokevirtual 137, 3, 0, 29, 475, 1), (8, .ifCond .ne 6, 3, 14, 0, 0, 0), (11, .bipush (-101), 2, 0, 0, 0, 0), (13, .ireturn, 1, 0, 0, 0, 0), (14, .iload_n 2, 1, 0, 0, 0, 0), (15, .invokestatic 124, 3, 1, 78, 462, 1), (18, .ifCond .ne 6, 3, 24, 0, 0, 0), (21, .bipush (-102), 2, 0, 0, 0, 0), (23, .ireturn, 1, 0, 0, 0, 0), (24, .aload_n 0, 1, 0, 0, 0, 0), (25, .getfield 26, 3, 7, 2, 204, 0), (28, .getfield 140, 3, 4, 1, 100, 0), (31, .iload_n 1, 1, 0, 0, 0, 0), (32, .invokestatic 144, 3, 1, 81, 479, 2), (35, .istore_n 3, 1, 0, 0, 0, 0), (36, .aload_n 0, 1, 0, 0, 0, 0), (37, .getfield 26, 3, 7, 2, 204, 0), (40, .getfield 140, 3, 4, 1, 100, 0), (43, .iload_n 1, 1, 0, 0, 0, 0), (44, .iload_n 2, 1, 0, 0, 0, 0), (45, .invokestatic 148, 3, 1, 82, 480, 3), (48, .iload_n 3, 1, 0, 0, 0, 0), (49, .ireturn, 1, 0, 0, 0, 0)]
def T_57 : List TE := T_57_0
def T_58_0 : List TE := [(0, .aload_n 0, 1, 0, 0, 0, 0), (1, .getfield 26, 3, 7, 2, 204, 0), (4, .iload_n 1, 1, 0, 0, 0, 0), (5, .invokevirtual 137, 3, 0, 29, 475, 1), (8, .ifCond .ne 6, 3, 14, 0, 0, 0), (11, .bipush (-101), 2, 0, 0, 0, 0), (13, .ireturn, 1, 0, 0, 0, 0), (14, .aload_n 0, 1, 0, 0, 0, 0), (15, .getfield 36, 3, 7, 4, 206, 0), (18, .aload_n 0, 1, 0, 0, 0, 0), (19, .getfield 19, 3, 7, 1, 203, 0), (22, .aload_n 0, 1, 0, 0, 0, 0), (23, .getfield 26, 3, 7, 2, 204, 0), (26, .iload_n 1, 1, 0, 0, 0, 0), (27, .iconst 0, 1, 0, 0, 0, 0), (28, .invokevirtual 152, 3, 0, 37, 415, 4), (31, .iload_n 2, 1, 0, 0, 0, 0), (32, .tableswitch 72 0 3 #[32, 44, 56, 64], 32, 0, 0, 0, 0), (64, .aload_n 0, 1, 0, 0, 0, 0), (65, .getfield 26, 3, 7, 2, 204, 0), (68, .getfield 156, 3, 4, 0, 97, 0), (71, .iload_n 1, 1, 0, 0, 0, 0), (72, .invokestatic 144, 3, 1, 81, 479, 2), (75, .ireturn, 1, 0, 0, 0, 0), (76, .aload_n 0, 1, 0, 0, 0, 0), (77, .getfield 26, 3, 7, 2, 204, 0), (80, .getfield 140, 3, 4, 1, 100, 0), (83, .iload_n 1, 1, 0, 0, 0, 0), (84, .invokestatic 144, 3, 1, 81, 479, 2), (87, .ireturn, 1, 0, 0, 0, 0), (88, .aload_n 0, 1, 0, 0, 0, 0), (89, .getfield 36, 3, 7, 4, 206, 0), (92, .getfield 159, 3, 5, 0, 145, 0), (95, .ireturn, 1, 0, 0, 0, 0), (96, .aload_n 0, 1, 0, 0, 0, 0), (97, .getfield 36, 3, 7, 4, 206, 0), (100, .getfield 162, 3, 5, 2, 149, 0), (103, .ireturn, 1, 0, 0, 0, 0), (104, .bipush (-102), 2, 0, 0, 0, 0), (106, .ireturn, 1, 0, 0, 0, 0)]
def T_58 : List TE := T_58_0
def T_59_0 : List TE := [(0, .aload_n 0, 1, 0, 0, 0, 0), (1, .getfield 19, 3, 7, 1, 203, 0), (4, .iload_n 1, 1, 0, 0, 0, 0), (5, .invokevirtual 95, 3, 0, 5, 406, 1), (8, .ifCond .ne 6, 3, 14, 0, 0, 0), (11, .bipush (-101), 2, 0, 0, 0, 0), (13, .ireturn, 1, 0, 0, 0, 0), (14, .aload_n 0, 1, 0, 0, 0, 0), (15, .getfield 19, 3, 7, 1, 203, 0), (18, .iload_n 1, 1, 0, 0, 0, 0), (19, .invokevirtual 127, 3, 0, 7, 465, 1), (22, .ifCond .ne 6, 3, 28, 0, 0, 0), (25, .bipush (-103), 2, 0, 0, 0, 0), (27, .ireturn, 1, 0, 0, 0, 0), (28, .aload_n 0, 1, 0, 0, 0, 0), (29, .getfield 26, 3, 7, 2, 204, 0), (32, .getfield 165, 3, 4, 6, 112, 0), (35, .iconst 3, 1, 0, 0, 0, 0), (36, .if_icmp .lt 6, 3, 42, 0, 0, 0), (39, .bipush (-104), 2, 0, 0, 0, 0), (41, .ireturn, 1, 0, 0, 0, 0), (42, .aload_n 0, 1, 0, 0, 0, 0), (43, .getfield 26, 3, 7, 2, 204, 0), (46, .iload_n 1, 1, 0, 0, 0, 0), (47, .invokevirtual 168, 3, 0, 32, 489, 1), (50, .ireturn, 1, 0, 0, 0, 0)]
def T_59 : List TE := T_59_0
def T_60_0 : List TE := [(0, .aload_n 0, 1, 0, 0, 0, 0), (1, .getfield 26, 3, 7, 2, 204, 0), (4, .iload_n 1, 1, 0, 0, 0, 0), (5, .invokevirtual 171, 3, 0, 30, 497, 1), (8, .ifCond .ne 6, 3, 14, 0, 0, 0), (11, .bipush (-101), 2, 0, 0, 0, 0), (13, .ireturn, 1, 0, 0, 0, 0), (14, .iload_n 2, 1, 0, 0, 0, 0), (15, .lookupswitch 49 #[(0, 25), (1, 37)], 25, 0, 0, 0, 0), (40, .aload_n 0, 1, 0, 0, 0, 0), (41, .getfield 26, 3, 7, 2, 204, 0), (44, .getfield 174, 3, 4, 2, 103, 0), (47, .iload_n 1, 1, 0, 0, 0, 0), (48, .invokestatic 144, 3, 1, 81, 479, 2), (51, .ireturn, 1, 0, 0, 0, 0), (52, .aload_n 0, 1, 0, 0, 0, 0), (53, .getfield 26, 3, 7, 2, 204, 0), (56, .getfield 177, 3, 4, 3, 105, 0), (59, .iload_n 1, 1, 0, 0, 0, 0), (60, .invokestatic 144, 3, 1, 81, 479, 2), (63, .ireturn, 1, 0, 0, 0, 0), (64, .bipush (-102), 2, 0, 0, 0, 0), (66, .ireturn, 1, 0, 0, 0, 0)]
def T_60 : List TE := T_60_0
def T_61_0 : List TE := [(0, .aload_n 0, 1, 0, 0, 0, 0), (1, .getfield 26, 3, 7, 2, 204, 0), (4, .iload_n 1, 1, 0, 0, 0, 0), (5, .invokevirtual 171, 3, 0, 30, 497, 1), (8, .ifCond .ne 6, 3, 14, 0, 0, 0), (11, .bipush (-101), 2, 0, 0, 0, 0), (13, .ireturn, 1, 0, 0, 0, 0), (14, .iload_n 2, 1, 0, 0, 0, 0), (15, .invokestatic 124, 3, 1, 78, 462, 1), (18, .ifCond .ne 6, 3, 24, 0, 0, 0), (21, .bipush (-102), 2, 0, 0, 0, 0), (23, .ireturn, 1, 0, 0, 0, 0), (24, .aload_n 0, 1, 0, 0, 0, 0), (25, .getfield 19, 3, 7, 1, 203, 0), (28, .aload_n 0, 1, 0, 0, 0, 0), (29, .getfield 26, 3, 7, 2, 204, 0), (32, .getfield 174, 3, 4, 2, 103, 0), (35, .iload_n 1, 1, 0, 0, 0, 0), (36, .invokestatic 144, 3, 1, 81, 479, 2), (39, .iload_n 2, 1, 0, 0, 0, 0), (40, .invokevirtual 180, 3, 0, 10, 505, 2), (43, .istore_n 3, 1, 0, 0, 0, 0), (44, .iload_n 3, 1, 0, 0, 0, 0), (45, .iconst (-1), 1, 0, 0, 0, 0), (46, .if_icmp .ne 6, 3, 52, 0, 0, 0), (49, .bipush (-103), 2, 0, 0, 0, 0), (51, .ireturn, 1, 0, 0, 0, 0), (52, .aload_n 0, 1, 0, 0, 0, 0), (53, .getfield 26, 3, 7, 2, 204, 0), (56, .getfield 174, 3, 4, 2, 103, 0), (59, .iload_n 1, 1, 0, 0, 0, 0), (60, .iload_n 3, 1, 0, 0, 0, 0), (61, .invokestatic 148, 3, 1, 82, 480, 3), (64, .aload_n 0, 1, 0, 0, 0, 0), (65, .getfield 26, 3, 7, 2, 204, 0), (68, .getfield 177, 3, 4, 3, 105, 0), (71, .iload_n 1, 1, 0, 0, 0, 0), (72, .aload_n 0, 1, 0, 0, 0, 0), (73, .getfield 26, 3, 7, 2, 204, 0), (76, .getfield 177, 3, 4, 3, 105, 0)]
def T_61_1 : List TE := [(79, .iload_n 1, 1, 0, 0, 0, 0), (80, .invokestatic 144, 3, 1, 81, 479, 2), (83, .aload_n 0, 1, 0, 0, 0, 0), (84, .iconst 0, 1, 0, 0, 0, 0), (85, .invokevirtual 183, 3, 0, 74, 510, 1), (88, .iload_n 3, 1, 0, 0, 0, 0), (89, .invokestatic 186, 3, 1, 80, 439, 2), (92, .iadd, 1, 0, 0, 0, 0), (93, .invokestatic 148, 3, 1, 82, 480, 3), (96, .iload_n 3, 1, 0, 0, 0, 0), (97, .ireturn, 1, 0, 0, 0, 0)]
def T_61 : List TE := T_61_0 ++ T_61_1
def T_62_0 : List TE := [(0, .aload_n 0, 1, 0, 0, 0, 0), (1, .getfield 26, 3, 7, 2, 204, 0), (4, .iload_n 1, 1, 0, 0, 0, 0), (5, .invokevirtual 171, 3, 0, 30, 497, 1), (8, .ifCond .eq 14, 3, 22, 0, 0, 0), (11, .aload_n 0, 1, 0, 0, 0, 0), (12, .getfield 19, 3, 7, 1, 203, 0), (15, .iload_n 2, 1, 0, 0, 0, 0), (16, .invokevirtual 95, 3, 0, 5, 406, 1), (19, .ifCond .ne 6, 3, 25, 0, 0, 0), (22, .bipush (-101), 2, 0, 0, 0, 0), (24, .ireturn, 1, 0, 0, 0, 0), (25, .iload_n 3, 1, 0, 0, 0, 0), (26, .ifCond .lt 8, 3, 34, 0, 0, 0), (29, .iload_n 3, 1, 0, 0, 0, 0), (30, .iconst 2, 1, 0, 0, 0, 0), (31, .if_icmp .le 6, 3, 37, 0, 0, 0), (34, .bipush (-102), 2, 0, 0, 0, 0), (36, .ireturn, 1, 0, 0, 0, 0), (37, .aload_n 0, 1, 0, 0, 0, 0), (38, .getfield 19, 3, 7, 1, 203, 0), (41, .iload_n 2, 1, 0, 0, 0, 0), (42, .invokevirtual 127, 3, 0, 7, 465, 1), (45, .ifCond .ne 6, 3, 51, 0, 0, 0), (48, .bipush (-103), 2, 0, 0, 0, 0), (50, .ireturn, 1, 0, 0, 0, 0), (51, .aload_n 0, 1, 0, 0, 0, 0), (52, .getfield 43, 3, 7, 5, 207, 0), (55, .aload_n 0, 1, 0, 0, 0, 0), (56, .getfield 19, 3, 7, 1, 203, 0), (59, .aload_n 0, 1, 0, 0, 0, 0), (60, .iconst 0, 1, 0, 0, 0, 0), (61, .invokevirtual 183, 3, 0, 74, 510, 1), (64, .iload_n 2, 1, 0, 0, 0, 0), (65, .invokevirtual 189, 3, 0, 42, 518, 3), (68, .aload_n 0, 1, 0, 0, 0, 0), (69, .getfield 26, 3, 7, 2, 204, 0), (72, .getfield 174, 3, 4, 2, 103, 0), (75, .iload_n 1, 1, 0, 0, 0, 0), (76, .invokestatic 144, 3, 1, 81, 479, 2)]
def T_62_1 : List TE := [(79, .istore 4, 2, 0, 0, 0, 0), (81, .aload_n 0, 1, 0, 0, 0, 0), (82, .getfield 43, 3, 7, 5, 207, 0), (85, .iload 4, 2, 0, 0, 0, 0), (87, .invokevirtual 193, 3, 0, 43, 534, 1), (90, .ifCond .ne 5, 3, 95, 0, 0, 0), (93, .iconst (-1), 1, 0, 0, 0, 0), (94, .ireturn, 1, 0, 0, 0, 0), (95, .iload_n 3, 1, 0, 0, 0, 0), (96, .lookupswitch 48 #[(0, 28), (1, 38)], 28, 0, 0, 0, 0), (124, .aload_n 0, 1, 0, 0, 0, 0), (125, .getfield 43, 3, 7, 5, 207, 0), (128, .iload 4, 2, 0, 0, 0, 0), (130, .invokevirtual 196, 3, 0, 44, 538, 1), (133, .ireturn, 1, 0, 0, 0, 0), (134, .aload_n 0, 1, 0, 0, 0, 0), (135, .getfield 43, 3, 7, 5, 207, 0), (138, .iload 4, 2, 0, 0, 0, 0), (140, .invokevirtual 199, 3, 0, 45, 542, 1), (143, .ireturn, 1, 0, 0, 0, 0), (144, .aload_n 0, 1, 0, 0, 0, 0), (145, .getfield 43, 3, 7, 5, 207, 0), (148, .iload 4, 2, 0, 0, 0, 0), (150, .invokevirtual 202, 3, 0, 46, 546, 1), (153, .ireturn, 1, 0, 0, 0, 0)]
def T_62 : List TE := T_62_0 ++ T_62_1
def T_63_0 : List TE := [(0, .iload_n 1, 1, 0, 0, 0, 0), (1, .ifCond .lt 8, 3, 9, 0, 0, 0), (4, .iload_n 1, 1, 0, 0, 0, 0), (5, .iconst 1, 1, 0, 0, 0, 0), (6, .if_icmp .le 6, 3, 12, 0, 0, 0), (9, .bipush (-102), 2, 0, 0, 0, 0), (11, .ireturn, 1, 0, 0, 0, 0), (12, .aload_n 0, 1, 0, 0, 0, 0), (13, .getfield 19, 3, 7, 1, 203, 0), (16, .getfield 114, 3, 1, 1, 78, 0), (19, .ifCond .ne 6, 3, 25, 0, 0, 0), (22, .bipush (-103), 2, 0, 0, 0, 0), (24, .ireturn, 1, 0, 0, 0, 0), (25, .aload_n 0, 1, 0, 0, 0, 0), (26, .iconst 0, 1, 0, 0, 0, 0), (27, .invokevirtual 183, 3, 0, 74, 510, 1), (30, .istore_n 2, 1, 0, 0, 0, 0), (31, .iconst (-1), 1, 0, 0, 0, 0), (32, .istore_n 3, 1, 0, 0, 0, 0), (33, .iconst (-1), 1, 0, 0, 0, 0), (34, .istore 4, 2, 0, 0, 0, 0), (36, .iconst 0, 1, 0, 0, 0, 0), (37, .istore 5, 2, 0, 0, 0, 0), (39, .iload 5, 2, 0, 0, 0, 0), (41, .bipush 48, 2, 0, 0, 0, 0), (43, .if_icmp .ge 32, 3, 75, 0, 0, 0), (46, .aload_n 0, 1, 0, 0, 0, 0), (47, .iload_n 2, 1, 0, 0, 0, 0), (48, .iload 5, 2, 0, 0, 0, 0), (50, .invokevirtual 205, 3, 0, 75, 554, 2), (53, .istore 6, 2, 0, 0, 0, 0), (55, .iload 6, 2, 0, 0, 0, 0), (57, .iload 4, 2, 0, 0, 0, 0), (59, .if_icmp .le 10, 3, 69, 0, 0, 0), (62, .iload 6, 2, 0, 0, 0, 0), (64, .istore 4, 2, 0, 0, 0, 0), (66, .iload 5, 2, 0, 0, 0, 0), (68, .istore_n 3, 1, 0, 0, 0, 0), (69, .iinc 5 1, 3, 0, 0, 0, 0), (72, .goto (-33), 3, 39, 0, 0, 0)]
def T_63_1 : List TE := [(75, .iload_n 1, 1, 0, 0, 0, 0), (76, .ifCond .ne 7, 3, 83, 0, 0, 0), (79, .iload_n 3, 1, 0, 0, 0, 0), (80, .goto 9, 3, 89, 0, 0, 0), (83, .iload 4, 2, 0, 0, 0, 0), (85, .iconst 0, 1, 0, 0, 0, 0), (86, .invokestatic 208, 3, 6, 0, 565, 0), (89, .ireturn, 1, 0, 0, 0, 0)]
def T_63 : List TE := T_63_0 ++ T_63_1
def T_64_0 : List TE := [(0, .aload_n 0, 1, 0, 0, 0, 0), (1, .getfield 19, 3, 7, 1, 203, 0), (4, .iload_n 1, 1, 0, 0, 0, 0), (5, .invokevirtual 95, 3, 0, 5, 406, 1), (8, .ifCond .ne 6, 3, 14, 0, 0, 0), (11, .bipush (-101), 2, 0, 0, 0, 0), (13, .ireturn, 1, 0, 0, 0, 0), (14, .iload_n 2, 1, 0, 0, 0, 0), (15, .ifCond .lt 8, 3, 23, 0, 0, 0), (18, .iload_n 2, 1, 0, 0, 0, 0), (19, .iconst 1, 1, 0, 0, 0, 0), (20, .if_icmp .le 6, 3, 26, 0, 0, 0), (23, .bipush (-102), 2, 0, 0, 0, 0), (25, .ireturn, 1, 0, 0, 0, 0), (26, .aload_n 0, 1, 0, 0, 0, 0), (27, .getfield 19, 3, 7, 1, 203, 0), (30, .iload_n 1, 1, 0, 0, 0, 0), (31, .invokevirtual 127, 3, 0, 7, 465, 1), (34, .ifCond .eq 12, 3, 46, 0, 0, 0), (37, .aload_n 0, 1, 0, 0, 0, 0), (38, .getfield 213, 3, 7, 10, 212, 0), (41, .bipush 20, 2, 0, 0, 0, 0), (43, .if_icmp .lt 6, 3, 49, 0, 0, 0), (46, .bipush (-103), 2, 0, 0, 0, 0), (48, .ireturn, 1, 0, 0, 0, 0), (49, .aload_n 0, 1, 0, 0, 0, 0), (50, .dup, 1, 0, 0, 0, 0), (51, .getfield 213, 3, 7, 10, 212, 0), (54, .iconst 1, 1, 0, 0, 0, 0), (55, .iadd, 1, 0, 0, 0, 0), (56, .putfield 213, 3, 7, 10, 212, 0), (59, .aload_n 0, 1, 0, 0, 0, 0), (60, .iload_n 1, 1, 0, 0, 0, 0), (61, .invokevirtual 216, 3, 0, 76, 570, 1), (64, .istore_n 3, 1, 0, 0, 0, 0), (65, .iload_n 2, 1, 0, 0, 0, 0), (66, .ifCond .ne 15, 3, 81, 0, 0, 0), (69, .iload_n 3, 1, 0, 0, 0, 0), (70, .iconst (-1), 1, 0, 0, 0, 0), (71, .if_icmp .eq 10, 3, 81, 0, 0, 0)]
def T_64_1 : List TE := [(74, .iload_n 3, 1, 0, 0, 0, 0), (75, .invokestatic 219, 3, 1, 139, 559, 1), (78, .goto 4, 3, 82, 0, 0, 0), (81, .iload_n 3, 1, 0, 0, 0, 0), (82, .ireturn, 1, 0, 0, 0, 0)]
def T_64 : List TE := T_64_0 ++ T_64_1
def T_65_0 : List TE := [(0, .iload_n 1, 1, 0, 0, 0, 0), (1, .iconst (-1), 1, 0, 0, 0, 0), (2, .if_icmp .lt 8, 3, 10, 0, 0, 0), (5, .iload_n 1, 1, 0, 0, 0, 0), (6, .iconst 1, 1, 0, 0, 0, 0), (7, .if_icmp .le 6, 3, 13, 0, 0, 0), (10, .bipush (-102), 2, 0, 0, 0, 0), (12, .ireturn, 1, 0, 0, 0, 0), (13, .aload_n 0, 1, 0, 0, 0, 0), (14, .getfield 26, 3, 7, 2, 204, 0), (17, .getfield 224, 3, 4, 7, 115, 0), (20, .bipush 8, 2, 0, 0, 0, 0), (22, .if_icmp .lt 6, 3, 28, 0, 0, 0), (25, .bipush (-104), 2, 0, 0, 0, 0), (27, .ireturn, 1, 0, 0, 0, 0), (28, .aload_n 0, 1, 0, 0, 0, 0), (29, .getfield 26, 3, 7, 2, 204, 0), (32, .iload_n 1, 1, 0, 0, 0, 0), (33, .invokevirtual 227, 3, 0, 33, 583, 1), (36, .aload_n 0, 1, 0, 0, 0, 0), (37, .getfield 26, 3, 7, 2, 204, 0), (40, .getfield 224, 3, 4, 7, 115, 0), (43, .ireturn, 1, 0, 0, 0, 0)]
def T_65 : List TE := T_65_0
def T_66_0 : List TE := [(0, .aload_n 0, 1, 0, 0, 0, 0), (1, .getfield 26, 3, 7, 2, 204, 0), (4, .getfield 224, 3, 4, 7, 115, 0), (7, .istore_n 1, 1, 0, 0, 0, 0), (8, .aload_n 0, 1, 0, 0, 0, 0), (9, .getfield 26, 3, 7, 2, 204, 0), (12, .iconst 0, 1, 0, 0, 0, 0), (13, .putfield 224, 3, 4, 7, 115, 0), (16, .iload_n 1, 1, 0, 0, 0, 0), (17, .ireturn, 1, 0, 0, 0, 0)]
def T_66 : List TE := T_66_0
def T_67_0 : List TE := [(0, .aload_n 0, 1, 0, 0, 0, 0), (1, .getfield 26, 3, 7, 2, 204, 0), (4, .iload_n 1, 1, 0, 0, 0, 0), (5, .invokevirtual 171, 3, 0, 30, 497, 1), (8, .ifCond .ne 6, 3, 14, 0, 0, 0), (11, .bipush (-101), 2, 0, 0, 0, 0), (13, .ireturn, 1, 0, 0, 0, 0), (14, .iload_n 2, 1, 0, 0, 0, 0), (15, .ifCond .lt 8, 3, 23, 0, 0, 0), (18, .iload_n 2, 1, 0, 0, 0, 0), (19, .iconst 1, 1, 0, 0, 0, 0), (20, .if_icmp .le 6, 3, 26, 0, 0, 0), (23, .bipush (-102), 2, 0, 0, 0, 0), (25, .ireturn, 1, 0, 0, 0, 0), (26, .aload_n 0, 1, 0, 0, 0, 0), (27, .getfield 50, 3, 7, 6, 208, 0), (30, .aload_n 0, 1, 0, 0, 0, 0), (31, .getfield 19, 3, 7, 1, 203, 0), (34, .aload_n 0, 1, 0, 0, 0, 0), (35, .getfield 26, 3, 7, 2, 204, 0), (38, .aload_n 0, 1, 0, 0, 0, 0), (39, .iconst 0, 1, 0, 0, 0, 0), (40, .invokevirtual 183, 3, 0, 74, 510, 1), (43, .aload_n 0, 1, 0, 0, 0, 0), (44, .getfield 26, 3, 7, 2, 204, 0), (47, .getfield 174, 3, 4, 2, 103, 0), (50, .iload_n 1, 1, 0, 0, 0, 0), (51, .invokestatic 144, 3, 1, 81, 479, 2), (54, .invokevirtual 230, 3, 0, 22, 595, 4), (57, .iload_n 2, 1, 0, 0, 0, 0), (58, .ifCond .ne 13, 3, 71, 0, 0, 0), (61, .aload_n 0, 1, 0, 0, 0, 0), (62, .getfield 50, 3, 7, 6, 208, 0), (65, .invokevirtual 232, 3, 0, 23, 611, 0), (68, .goto 10, 3, 78, 0, 0, 0), (71, .aload_n 0, 1, 0, 0, 0, 0), (72, .getfield 50, 3, 7, 6, 208, 0), (75, .invokevirtual 235, 3, 0, 24, 615, 0), (78, .ireturn, 1, 0, 0, 0, 0)]
def T_67 : List TE := T_67_0
def T_68_0 : List TE := [(0, .iload_n 1, 1, 0, 0, 0, 0), (1, .iconst 1, 1, 0, 0, 0, 0), (2, .if_icmp .lt 22, 3, 24, 0, 0, 0), (5, .iload_n 1, 1, 0, 0, 0, 0), (6, .bipush 60, 2, 0, 0, 0, 0), (8, .if_icmp .gt 16, 3, 24, 0, 0, 0), (11, .iload_n 2, 1, 0, 0, 0, 0), (12, .ifCond .lt 12, 3, 24, 0, 0, 0), (15, .iload_n 3, 1, 0, 0, 0, 0), (16, .ifCond .lt 8, 3, 24, 0, 0, 0), (19, .iload_n 3, 1, 0, 0, 0, 0), (20, .iconst 2, 1, 0, 0, 0, 0), (21, .if_icmp .le 6, 3, 27, 0, 0, 0), (24, .bipush (-102), 2, 0, 0, 0, 0), (26, .ireturn, 1, 0, 0, 0, 0), (27, .aload_n 0, 1, 0, 0, 0, 0), (28, .getfield 19, 3, 7, 1, 203, 0), (31, .getfield 114, 3, 1, 1, 78, 0), (34, .ifCond .ne 6, 3, 40, 0, 0, 0), (37, .bipush (-103), 2, 0, 0, 0, 0), (39, .ireturn, 1, 0, 0, 0, 0), (40, .aload_n 0, 1, 0, 0, 0, 0), (41, .getfield 57, 3, 7, 7, 209, 0), (44, .aload_n 0, 1, 0, 0, 0, 0), (45, .getfield 19, 3, 7, 1, 203, 0), (48, .aload_n 0, 1, 0, 0, 0, 0), (49, .getfield 26, 3, 7, 2, 204, 0), (52, .aload_n 0, 1, 0, 0, 0, 0), (53, .iconst 0, 1, 0, 0, 0, 0), (54, .invokevirtual 183, 3, 0, 74, 510, 1), (57, .iload_n 1, 1, 0, 0, 0, 0), (58, .iload_n 2, 1, 0, 0, 0, 0), (59, .invokevirtual 238, 3, 0, 1, 624, 5), (62, .iload_n 3, 1, 0, 0, 0, 0), (63, .lookupswitch 59 #[(0, 25), (1, 33)], 25, 0, 0, 0, 0), (88, .aload_n 0, 1, 0, 0, 0, 0), (89, .getfield 57, 3, 7, 7, 209, 0), (92, .getfield 241, 3, 0, 1, 192, 0), (95, .ireturn, 1, 0, 0, 0, 0), (96, .aload_n 0, 1, 0, 0, 0, 0)]
def T_68_1 : List TE := [(97, .getfield 26, 3, 7, 2, 204, 0), (100, .getfield 165, 3, 4, 6, 112, 0), (103, .ifCond .le 17, 3, 120, 0, 0, 0), (106, .aload_n 0, 1, 0, 0, 0, 0), (107, .getfield 57, 3, 7, 7, 209, 0), (110, .getfield 243, 3, 0, 0, 190, 0), (113, .iconst 0, 1, 0, 0, 0, 0), (114, .invokestatic 144, 3, 1, 81, 479, 2), (117, .goto 4, 3, 121, 0, 0, 0), (120, .iconst (-1), 1, 0, 0, 0, 0), (121, .ireturn, 1, 0, 0, 0, 0), (122, .aload_n 0, 1, 0, 0, 0, 0), (123, .getfield 57, 3, 7, 7, 209, 0), (126, .getfield 246, 3, 0, 2, 194, 0), (129, .ireturn, 1, 0, 0, 0, 0)]
def T_68 : List TE := T_68_0 ++ T_68_1
def T_69_0 : List TE := [(0, .aload_n 0, 1, 0, 0, 0, 0), (1, .getfield 19, 3, 7, 1, 203, 0), (4, .getfield 114, 3, 1, 1, 78, 0), (7, .ifCond .ne 6, 3, 13, 0, 0, 0), (10, .bipush (-103), 2, 0, 0, 0, 0), (12, .ireturn, 1, 0, 0, 0, 0), (13, .aload_n 0, 1, 0, 0, 0, 0), (14, .getfield 30, 3, 7, 3, 205, 0), (17, .aload_n 0, 1, 0, 0, 0, 0), (18, .getfield 26, 3, 7, 2, 204, 0), (21, .invokevirtual 249, 3, 0, 28, 645, 1), (24, .aload_n 0, 1, 0, 0, 0, 0), (25, .iconst 1, 1, 0, 0, 0, 0), (26, .putfield 85, 3, 7, 8, 210, 0), (29, .aload_n 0, 1, 0, 0, 0, 0), (30, .getfield 26, 3, 7, 2, 204, 0), (33, .invokevirtual 253, 3, 0, 35, 650, 0), (36, .ireturn, 1, 0, 0, 0, 0)]
def T_69 : List TE := T_69_0
def T_70_0 : List TE := [(0, .aload_n 0, 1, 0, 0, 0, 0), (1, .getfield 85, 3, 7, 8, 210, 0), (4, .ifCond .ne 6, 3, 10, 0, 0, 0), (7, .bipush (-103), 2, 0, 0, 0, 0), (9, .ireturn, 1, 0, 0, 0, 0), (10, .aload_n 0, 1, 0, 0, 0, 0), (11, .getfield 26, 3, 7, 2, 204, 0), (14, .aload_n 0, 1, 0, 0, 0, 0), (15, .getfield 30, 3, 7, 3, 205, 0), (18, .invokevirtual 249, 3, 0, 28, 645, 1), (21, .aload_n 0, 1, 0, 0, 0, 0), (22, .getfield 26, 3, 7, 2, 204, 0), (25, .invokevirtual 253, 3, 0, 35, 650, 0), (28, .ireturn, 1, 0, 0, 0, 0)]
def T_70 : List TE := T_70_0
def T_71_0 : List TE := [(0, .iload_n 1, 1, 0, 0, 0, 0), (1, .tableswitch 145 0 10 #[59, 67, 75, 84, 95, 103, 111, 119, 127, 135, 140], 59, 0, 0, 0, 0), (60, .aload_n 0, 1, 0, 0, 0, 0), (61, .getfield 19, 3, 7, 1, 203, 0), (64, .getfield 256, 3, 1, 2, 81, 0), (67, .ireturn, 1, 0, 0, 0, 0), (68, .aload_n 0, 1, 0, 0, 0, 0), (69, .getfield 19, 3, 7, 1, 203, 0), (72, .invokevirtual 92, 3, 0, 8, 386, 0), (75, .ireturn, 1, 0, 0, 0, 0), (76, .aload_n 0, 1, 0, 0, 0, 0), (77, .iconst 0, 1, 0, 0, 0, 0), (78, .invokevirtual 183, 3, 0, 74, 510, 1), (81, .invokestatic 219, 3, 1, 139, 559, 1), (84, .ireturn, 1, 0, 0, 0, 0), (85, .aload_n 0, 1, 0, 0, 0, 0), (86, .getfield 26, 3, 7, 2, 204, 0), (89, .getfield 117, 3, 4, 8, 118, 0), (92, .invokestatic 120, 3, 1, 79, 457, 1), (95, .ireturn, 1, 0, 0, 0, 0), (96, .aload_n 0, 1, 0, 0, 0, 0), (97, .getfield 26, 3, 7, 2, 204, 0), (100, .getfield 130, 3, 4, 5, 109, 0), (103, .ireturn, 1, 0, 0, 0, 0), (104, .aload_n 0, 1, 0, 0, 0, 0), (105, .getfield 26, 3, 7, 2, 204, 0), (108, .getfield 165, 3, 4, 6, 112, 0), (111, .ireturn, 1, 0, 0, 0, 0), (112, .aload_n 0, 1, 0, 0, 0, 0), (113, .getfield 26, 3, 7, 2, 204, 0), (116, .invokevirtual 253, 3, 0, 35, 650, 0), (119, .ireturn, 1, 0, 0, 0, 0), (120, .aload_n 0, 1, 0, 0, 0, 0), (121, .getfield 26, 3, 7, 2, 204, 0), (124, .getfield 224, 3, 4, 7, 115, 0), (127, .ireturn, 1, 0, 0, 0, 0), (128, .aload_n 0, 1, 0, 0, 0, 0), (129, .getfield 10, 3, 7, 0, 202, 0), (132, .getfield 61, 3, 2, 1, 63, 0), (135, .ireturn, 1, 0, 0, 0, 0)]
def T_71_1 : List TE := [(136, .aload_n 0, 1, 0, 0, 0, 0), (137, .getfield 89, 3, 7, 9, 211, 0), (140, .ireturn, 1, 0, 0, 0, 0), (141, .aload_n 0, 1, 0, 0, 0, 0), (142, .getfield 213, 3, 7, 10, 212, 0), (145, .ireturn, 1, 0, 0, 0, 0), (146, .bipush (-102), 2, 0, 0, 0, 0), (148, .ireturn, 1, 0, 0, 0, 0)]
def T_71 : List TE := T_71_0 ++ T_71_1
def T_72_0 : List TE := [(0, .ldc2_w 259, 3, 0, 0, 666, 839), (3, .lstore_n 1, 1, 0, 0, 0, 0), (4, .aload_n 0, 1, 0, 0, 0, 0), (5, .getfield 19, 3, 7, 1, 203, 0), (8, .getfield 114, 3, 1, 1, 78, 0), (11, .ifCond .eq 73, 3, 84, 0, 0, 0), (14, .iconst 0, 1, 0, 0, 0, 0), (15, .istore_n 3, 1, 0, 0, 0, 0), (16, .iload_n 3, 1, 0, 0, 0, 0), (17, .bipush 12, 2, 0, 0, 0, 0), (19, .if_icmp .ge 39, 3, 58, 0, 0, 0), (22, .iconst 0, 1, 0, 0, 0, 0), (23, .istore 4, 2, 0, 0, 0, 0), (25, .iload 4, 2, 0, 0, 0, 0), (27, .iconst 3, 1, 0, 0, 0, 0), (28, .if_icmp .gt 24, 3, 52, 0, 0, 0), (31, .ldc2_w 261, 3, 0, 0, 667, 31), (34, .lload_n 1, 1, 0, 0, 0, 0), (35, .lmul, 1, 0, 0, 0, 0), (36, .aload_n 0, 1, 0, 0, 0, 0), (37, .iload_n 3, 1, 0, 0, 0, 0), (38, .iload 4, 2, 0, 0, 0, 0), (40, .invokevirtual 263, 3, 0, 53, 668, 2), (43, .i2l, 1, 0, 0, 0, 0), (44, .ladd, 1, 0, 0, 0, 0), (45, .lstore_n 1, 1, 0, 0, 0, 0), (46, .iinc 4 1, 3, 0, 0, 0, 0), (49, .goto (-24), 3, 25, 0, 0, 0), (52, .iinc 3 1, 3, 0, 0, 0, 0), (55, .goto (-39), 3, 16, 0, 0, 0), (58, .ldc2_w 261, 3, 0, 0, 667, 31), (61, .lload_n 1, 1, 0, 0, 0, 0), (62, .lmul, 1, 0, 0, 0, 0), (63, .aload_n 0, 1, 0, 0, 0, 0), (64, .iconst 0, 1, 0, 0, 0, 0), (65, .invokevirtual 266, 3, 0, 63, 669, 1), (68, .i2l, 1, 0, 0, 0, 0), (69, .ladd, 1, 0, 0, 0, 0), (70, .lstore_n 1, 1, 0, 0, 0, 0), (71, .ldc2_w 261, 3, 0, 0, 667, 31)]
def T_72_1 : List TE := [(74, .lload_n 1, 1, 0, 0, 0, 0), (75, .lmul, 1, 0, 0, 0, 0), (76, .aload_n 0, 1, 0, 0, 0, 0), (77, .iconst 1, 1, 0, 0, 0, 0), (78, .invokevirtual 266, 3, 0, 63, 669, 1), (81, .i2l, 1, 0, 0, 0, 0), (82, .ladd, 1, 0, 0, 0, 0), (83, .lstore_n 1, 1, 0, 0, 0, 0), (84, .iconst 0, 1, 0, 0, 0, 0), (85, .istore_n 3, 1, 0, 0, 0, 0), (86, .iload_n 3, 1, 0, 0, 0, 0), (87, .aload_n 0, 1, 0, 0, 0, 0), (88, .getfield 26, 3, 7, 2, 204, 0), (91, .getfield 130, 3, 4, 5, 109, 0), (94, .if_icmp .ge 39, 3, 133, 0, 0, 0), (97, .iconst 0, 1, 0, 0, 0, 0), (98, .istore 4, 2, 0, 0, 0, 0), (100, .iload 4, 2, 0, 0, 0, 0), (102, .iconst 3, 1, 0, 0, 0, 0), (103, .if_icmp .gt 24, 3, 127, 0, 0, 0), (106, .ldc2_w 261, 3, 0, 0, 667, 31), (109, .lload_n 1, 1, 0, 0, 0, 0), (110, .lmul, 1, 0, 0, 0, 0), (111, .aload_n 0, 1, 0, 0, 0, 0), (112, .iload_n 3, 1, 0, 0, 0, 0), (113, .iload 4, 2, 0, 0, 0, 0), (115, .invokevirtual 269, 3, 0, 58, 670, 2), (118, .i2l, 1, 0, 0, 0, 0), (119, .ladd, 1, 0, 0, 0, 0), (120, .lstore_n 1, 1, 0, 0, 0, 0), (121, .iinc 4 1, 3, 0, 0, 0, 0), (124, .goto (-24), 3, 100, 0, 0, 0), (127, .iinc 3 1, 3, 0, 0, 0, 0), (130, .goto (-44), 3, 86, 0, 0, 0), (133, .iconst 0, 1, 0, 0, 0, 0), (134, .istore_n 3, 1, 0, 0, 0, 0), (135, .iload_n 3, 1, 0, 0, 0, 0), (136, .aload_n 0, 1, 0, 0, 0, 0), (137, .getfield 26, 3, 7, 2, 204, 0), (140, .getfield 165, 3, 4, 6, 112, 0)]
def T_72_2 : List TE := [(143, .if_icmp .ge 65, 3, 208, 0, 0, 0), (146, .ldc2_w 261, 3, 0, 0, 667, 31), (149, .lload_n 1, 1, 0, 0, 0, 0), (150, .lmul, 1, 0, 0, 0, 0), (151, .aload_n 0, 1, 0, 0, 0, 0), (152, .iload_n 3, 1, 0, 0, 0, 0), (153, .iconst 0, 1, 0, 0, 0, 0), (154, .invokevirtual 272, 3, 0, 60, 671, 2), (157, .i2l, 1, 0, 0, 0, 0), (158, .ladd, 1, 0, 0, 0, 0), (159, .lstore_n 1, 1, 0, 0, 0, 0), (160, .ldc2_w 261, 3, 0, 0, 667, 31), (163, .lload_n 1, 1, 0, 0, 0, 0), (164, .lmul, 1, 0, 0, 0, 0), (165, .aload_n 0, 1, 0, 0, 0, 0), (166, .iload_n 3, 1, 0, 0, 0, 0), (167, .iconst 1, 1, 0, 0, 0, 0), (168, .invokevirtual 272, 3, 0, 60, 671, 2), (171, .i2l, 1, 0, 0, 0, 0), (172, .ladd, 1, 0, 0, 0, 0), (173, .lstore_n 1, 1, 0, 0, 0, 0), (174, .ldc2_w 261, 3, 0, 0, 667, 31), (177, .lload_n 1, 1, 0, 0, 0, 0), (178, .lmul, 1, 0, 0, 0, 0), (179, .aload_n 0, 1, 0, 0, 0, 0), (180, .iload_n 3, 1, 0, 0, 0, 0), (181, .iconst 0, 1, 0, 0, 0, 0), (182, .invokevirtual 275, 3, 0, 67, 672, 2), (185, .i2l, 1, 0, 0, 0, 0), (186, .ladd, 1, 0, 0, 0, 0), (187, .lstore_n 1, 1, 0, 0, 0, 0), (188, .ldc2_w 261, 3, 0, 0, 667, 31), (191, .lload_n 1, 1, 0, 0, 0, 0), (192, .lmul, 1, 0, 0, 0, 0), (193, .aload_n 0, 1, 0, 0, 0, 0), (194, .iload_n 3, 1, 0, 0, 0, 0), (195, .iconst 1, 1, 0, 0, 0, 0), (196, .invokevirtual 275, 3, 0, 67, 672, 2), (199, .i2l, 1, 0, 0, 0, 0), (200, .ladd, 1, 0, 0, 0, 0)]
def T_72_3 : List TE := [(201, .lstore_n 1, 1, 0, 0, 0, 0), (202, .iinc 3 1, 3, 0, 0, 0, 0), (205, .goto (-70), 3, 135, 0, 0, 0), (208, .iconst 0, 1, 0, 0, 0, 0), (209, .istore_n 3, 1, 0, 0, 0, 0), (210, .iload_n 3, 1, 0, 0, 0, 0), (211, .aload_n 0, 1, 0, 0, 0, 0), (212, .getfield 10, 3, 7, 0, 202, 0), (215, .getfield 61, 3, 2, 1, 63, 0), (218, .if_icmp .ge 28, 3, 246, 0, 0, 0), (221, .ldc2_w 261, 3, 0, 0, 667, 31), (224, .lload_n 1, 1, 0, 0, 0, 0), (225, .lmul, 1, 0, 0, 0, 0), (226, .aload_n 0, 1, 0, 0, 0, 0), (227, .getfield 10, 3, 7, 0, 202, 0), (230, .getfield 278, 3, 2, 0, 61, 0), (233, .iload_n 3, 1, 0, 0, 0, 0), (234, .invokestatic 144, 3, 1, 81, 479, 2), (237, .i2l, 1, 0, 0, 0, 0), (238, .ladd, 1, 0, 0, 0, 0), (239, .lstore_n 1, 1, 0, 0, 0, 0), (240, .iinc 3 1, 3, 0, 0, 0, 0), (243, .goto (-33), 3, 210, 0, 0, 0), (246, .iconst 0, 1, 0, 0, 0, 0), (247, .istore_n 3, 1, 0, 0, 0, 0), (248, .iload_n 3, 1, 0, 0, 0, 0), (249, .bipush 10, 2, 0, 0, 0, 0), (251, .if_icmp .gt 22, 3, 273, 0, 0, 0), (254, .ldc2_w 261, 3, 0, 0, 667, 31), (257, .lload_n 1, 1, 0, 0, 0, 0), (258, .lmul, 1, 0, 0, 0, 0), (259, .aload_n 0, 1, 0, 0, 0, 0), (260, .iload_n 3, 1, 0, 0, 0, 0), (261, .invokevirtual 281, 3, 0, 71, 673, 1), (264, .i2l, 1, 0, 0, 0, 0), (265, .ladd, 1, 0, 0, 0, 0), (266, .lstore_n 1, 1, 0, 0, 0, 0), (267, .iinc 3 1, 3, 0, 0, 0, 0), (270, .goto (-22), 3, 248, 0, 0, 0), (273, .lload_n 1, 1, 0, 0, 0, 0)]
def T_72_4 : List TE := [(274, .lreturn, 1, 0, 0, 0, 0)]
def T_72 : List TE := T_72_0 ++ T_72_1 ++ T_72_2 ++ T_72_3 ++ T_72_4
def T_73_0 : List TE := [(0, .iconst 0, 1, 0, 0, 0, 0), (1, .istore_n 3, 1, 0, 0, 0, 0), (2, .iconst 0, 1, 0, 0, 0, 0), (3, .istore 4, 2, 0, 0, 0, 0), (5, .iload 4, 2, 0, 0, 0, 0), (7, .aload_n 0, 1, 0, 0, 0, 0), (8, .getfield 26, 3, 7, 2, 204, 0), (11, .getfield 130, 3, 4, 5, 109, 0), (14, .if_icmp .ge 58, 3, 72, 0, 0, 0), (17, .aload_n 0, 1, 0, 0, 0, 0), (18, .getfield 36, 3, 7, 4, 206, 0), (21, .aload_n 0, 1, 0, 0, 0, 0), (22, .getfield 19, 3, 7, 1, 203, 0), (25, .aload_n 0, 1, 0, 0, 0, 0), (26, .getfield 26, 3, 7, 2, 204, 0), (29, .iload 4, 2, 0, 0, 0, 0), (31, .iconst 0, 1, 0, 0, 0, 0), (32, .invokevirtual 152, 3, 0, 37, 415, 4), (35, .iload_n 3, 1, 0, 0, 0, 0), (36, .iload_n 2, 1, 0, 0, 0, 0), (37, .ifCond .eq 13, 3, 50, 0, 0, 0), (40, .aload_n 0, 1, 0, 0, 0, 0), (41, .getfield 36, 3, 7, 4, 206, 0), (44, .getfield 284, 3, 5, 1, 147, 0), (47, .goto 10, 3, 57, 0, 0, 0), (50, .aload_n 0, 1, 0, 0, 0, 0), (51, .getfield 36, 3, 7, 4, 206, 0), (54, .getfield 159, 3, 5, 0, 145, 0), (57, .iload_n 1, 1, 0, 0, 0, 0), (58, .invokestatic 186, 3, 1, 80, 439, 2), (61, .iload 4, 2, 0, 0, 0, 0), (63, .ishl, 1, 0, 0, 0, 0), (64, .ior, 1, 0, 0, 0, 0), (65, .istore_n 3, 1, 0, 0, 0, 0), (66, .iinc 4 1, 3, 0, 0, 0, 0), (69, .goto (-64), 3, 5, 0, 0, 0), (72, .iload_n 3, 1, 0, 0, 0, 0), (73, .ireturn, 1, 0, 0, 0, 0)]
def T_73 : List TE := T_73_0
def T_74_0 : List TE := [(0, .iconst 0, 1, 0, 0, 0, 0), (1, .istore_n 2, 1, 0, 0, 0, 0), (2, .iconst 0, 1, 0, 0, 0, 0), (3, .istore_n 3, 1, 0, 0, 0, 0), (4, .iload_n 3, 1, 0, 0, 0, 0), (5, .aload_n 0, 1, 0, 0, 0, 0), (6, .getfield 26, 3, 7, 2, 204, 0), (9, .getfield 130, 3, 4, 5, 109, 0), (12, .if_icmp .ge 36, 3, 48, 0, 0, 0), (15, .aload_n 0, 1, 0, 0, 0, 0), (16, .getfield 36, 3, 7, 4, 206, 0), (19, .aload_n 0, 1, 0, 0, 0, 0), (20, .getfield 19, 3, 7, 1, 203, 0), (23, .aload_n 0, 1, 0, 0, 0, 0), (24, .getfield 26, 3, 7, 2, 204, 0), (27, .iload_n 3, 1, 0, 0, 0, 0), (28, .iload_n 1, 1, 0, 0, 0, 0), (29, .invokevirtual 152, 3, 0, 37, 415, 4), (32, .iload_n 2, 1, 0, 0, 0, 0), (33, .aload_n 0, 1, 0, 0, 0, 0), (34, .getfield 36, 3, 7, 4, 206, 0), (37, .getfield 159, 3, 5, 0, 145, 0), (40, .ior, 1, 0, 0, 0, 0), (41, .istore_n 2, 1, 0, 0, 0, 0), (42, .iinc 3 1, 3, 0, 0, 0, 0), (45, .goto (-41), 3, 4, 0, 0, 0), (48, .iload_n 2, 1, 0, 0, 0, 0), (49, .ireturn, 1, 0, 0, 0, 0)]
def T_74 : List TE := T_74_0
def T_75_0 : List TE := [(0, .iload_n 2, 1, 0, 0, 0, 0), (1, .iconst 4, 1, 0, 0, 0, 0), (2, .idiv, 1, 0, 0, 0, 0), (3, .istore_n 3, 1, 0, 0, 0, 0), (4, .aload_n 0, 1, 0, 0, 0, 0), (5, .getfield 19, 3, 7, 1, 203, 0), (8, .iload_n 3, 1, 0, 0, 0, 0), (9, .invokevirtual 127, 3, 0, 7, 465, 1), (12, .ifCond .ne 5, 3, 17, 0, 0, 0), (15, .iconst (-1), 1, 0, 0, 0, 0), (16, .ireturn, 1, 0, 0, 0, 0), (17, .aload_n 0, 1, 0, 0, 0, 0), (18, .getfield 36, 3, 7, 4, 206, 0), (21, .aload_n 0, 1, 0, 0, 0, 0), (22, .getfield 19, 3, 7, 1, 203, 0), (25, .aload_n 0, 1, 0, 0, 0, 0), (26, .getfield 26, 3, 7, 2, 204, 0), (29, .getfield 117, 3, 4, 8, 118, 0), (32, .iconst 0, 1, 0, 0, 0, 0), (33, .iload_n 3, 1, 0, 0, 0, 0), (34, .iload_n 2, 1, 0, 0, 0, 0), (35, .iconst 4, 1, 0, 0, 0, 0), (36, .irem, 1, 0, 0, 0, 0), (37, .invokevirtual 287, 3, 0, 38, 558, 5), (40, .iload_n 1, 1, 0, 0, 0, 0), (41, .aload_n 0, 1, 0, 0, 0, 0), (42, .getfield 36, 3, 7, 4, 206, 0), (45, .getfield 159, 3, 5, 0, 145, 0), (48, .ior, 1, 0, 0, 0, 0), (49, .invokestatic 219, 3, 1, 139, 559, 1), (52, .ireturn, 1, 0, 0, 0, 0)]
def T_75 : List TE := T_75_0
def T_76_0 : List TE := [(0, .aload_n 0, 1, 0, 0, 0, 0), (1, .getfield 19, 3, 7, 1, 203, 0), (4, .invokevirtual 291, 3, 0, 9, 574, 0), (7, .iconst (-1), 1, 0, 0, 0, 0), (8, .ixor, 1, 0, 0, 0, 0), (9, .istore_n 2, 1, 0, 0, 0, 0), (10, .iconst (-1), 1, 0, 0, 0, 0), (11, .istore_n 3, 1, 0, 0, 0, 0), (12, .bipush 13, 2, 0, 0, 0, 0), (14, .istore 4, 2, 0, 0, 0, 0), (16, .iconst 0, 1, 0, 0, 0, 0), (17, .istore 5, 2, 0, 0, 0, 0), (19, .iload 5, 2, 0, 0, 0, 0), (21, .sipush 4096, 3, 0, 0, 0, 0), (24, .if_icmp .ge 62, 3, 86, 0, 0, 0), (27, .iload 5, 2, 0, 0, 0, 0), (29, .iload_n 2, 1, 0, 0, 0, 0), (30, .iand, 1, 0, 0, 0, 0), (31, .ifCond .ne 17, 3, 48, 0, 0, 0), (34, .iload 5, 2, 0, 0, 0, 0), (36, .invokestatic 219, 3, 1, 139, 559, 1), (39, .iload 4, 2, 0, 0, 0, 0), (41, .if_icmp .ge 7, 3, 48, 0, 0, 0), (44, .iconst 1, 1, 0, 0, 0, 0), (45, .goto 4, 3, 49, 0, 0, 0), (48, .iconst 0, 1, 0, 0, 0, 0), (49, .istore 6, 2, 0, 0, 0, 0), (51, .iload 6, 2, 0, 0, 0, 0), (53, .ifCond .eq 27, 3, 80, 0, 0, 0), (56, .aload_n 0, 1, 0, 0, 0, 0), (57, .iload 5, 2, 0, 0, 0, 0), (59, .invokevirtual 183, 3, 0, 74, 510, 1), (62, .iload_n 1, 1, 0, 0, 0, 0), (63, .invokestatic 186, 3, 1, 80, 439, 2), (66, .iconst 1, 1, 0, 0, 0, 0), (67, .if_icmp .ne 13, 3, 80, 0, 0, 0), (70, .iload 5, 2, 0, 0, 0, 0), (72, .istore_n 3, 1, 0, 0, 0, 0), (73, .iload 5, 2, 0, 0, 0, 0), (75, .invokestatic 219, 3, 1, 139, 559, 1)]
def T_76_1 : List TE := [(78, .istore 4, 2, 0, 0, 0, 0), (80, .iinc 5 1, 3, 0, 0, 0, 0), (83, .goto (-64), 3, 19, 0, 0, 0), (86, .iload_n 3, 1, 0, 0, 0, 0), (87, .ireturn, 1, 0, 0, 0, 0)]
def T_76 : List TE := T_76_0 ++ T_76_1
def T_77_0 : List TE := [(0, .iload_n 1, 1, 0, 0, 0, 0), (1, .iconst 2, 1, 0, 0, 0, 0), (2, .if_icmp .eq 18, 3, 20, 0, 0, 0), (5, .iload_n 0, 1, 0, 0, 0, 0), (6, .iload_n 1, 1, 0, 0, 0, 0), (7, .if_icmp .eq 13, 3, 20, 0, 0, 0), (10, .iload_n 0, 1, 0, 0, 0, 0), (11, .iconst 5, 1, 0, 0, 0, 0), (12, .if_icmp .ne 12, 3, 24, 0, 0, 0), (15, .iload_n 1, 1, 0, 0, 0, 0), (16, .iconst 4, 1, 0, 0, 0, 0), (17, .if_icmp .ne 7, 3, 24, 0, 0, 0), (20, .iconst 1, 1, 0, 0, 0, 0), (21, .goto 4, 3, 25, 0, 0, 0), (24, .iconst 0, 1, 0, 0, 0, 0), (25, .ireturn, 1, 0, 0, 0, 0)]
def T_77 : List TE := T_77_0
def T_78_0 : List TE := [(0, .iload_n 0, 1, 0, 0, 0, 0), (1, .ifCond .lt 12, 3, 13, 0, 0, 0), (4, .iload_n 0, 1, 0, 0, 0, 0), (5, .iconst 4, 1, 0, 0, 0, 0), (6, .if_icmp .ge 7, 3, 13, 0, 0, 0), (9, .iconst 1, 1, 0, 0, 0, 0), (10, .goto 4, 3, 14, 0, 0, 0), (13, .iconst 0, 1, 0, 0, 0, 0), (14, .ireturn, 1, 0, 0, 0, 0)]
def T_78 : List TE := T_78_0
def T_79_0 : List TE := [(0, .iload_n 0, 1, 0, 0, 0, 0), (1, .ifCond .eq 7, 3, 8, 0, 0, 0), (4, .iconst 1, 1, 0, 0, 0, 0), (5, .goto 4, 3, 9, 0, 0, 0), (8, .iconst 0, 1, 0, 0, 0, 0), (9, .ireturn, 1, 0, 0, 0, 0)]
def T_79 : List TE := T_79_0
def T_80_0 : List TE := [(0, .iload_n 1, 1, 0, 0, 0, 0), (1, .ifCond .lt 17, 3, 18, 0, 0, 0), (4, .iload_n 1, 1, 0, 0, 0, 0), (5, .bipush 12, 2, 0, 0, 0, 0), (7, .if_icmp .ge 11, 3, 18, 0, 0, 0), (10, .iload_n 0, 1, 0, 0, 0, 0), (11, .iload_n 1, 1, 0, 0, 0, 0), (12, .ishr, 1, 0, 0, 0, 0), (13, .iconst 1, 1, 0, 0, 0, 0), (14, .iand, 1, 0, 0, 0, 0), (15, .goto 4, 3, 19, 0, 0, 0), (18, .iconst 0, 1, 0, 0, 0, 0), (19, .ireturn, 1, 0, 0, 0, 0)]
def T_80 : List TE := T_80_0
def T_81_0 : List TE := [(0, .iload_n 1, 1, 0, 0, 0, 0), (1, .ifCond .lt 15, 3, 16, 0, 0, 0), (4, .iload_n 1, 1, 0, 0, 0, 0), (5, .aload_n 0, 1, 0, 0, 0, 0), (6, .arraylength, 1, 0, 0, 0, 0), (7, .if_icmp .ge 9, 3, 16, 0, 0, 0), (10, .aload_n 0, 1, 0, 0, 0, 0), (11, .iload_n 1, 1, 0, 0, 0, 0), (12, .iaload, 1, 0, 0, 0, 0), (13, .goto 4, 3, 17, 0, 0, 0), (16, .iconst 0, 1, 0, 0, 0, 0), (17, .ireturn, 1, 0, 0, 0, 0)]
def T_81 : List TE := T_81_0
def T_82_0 : List TE := [(0, .iload_n 1, 1, 0, 0, 0, 0), (1, .ifCond .lt 13, 3, 14, 0, 0, 0), (4, .iload_n 1, 1, 0, 0, 0, 0), (5, .aload_n 0, 1, 0, 0, 0, 0), (6, .arraylength, 1, 0, 0, 0, 0), (7, .if_icmp .ge 7, 3, 14, 0, 0, 0), (10, .aload_n 0, 1, 0, 0, 0, 0), (11, .iload_n 1, 1, 0, 0, 0, 0), (12, .iload_n 2, 1, 0, 0, 0, 0), (13, .iastore, 1, 0, 0, 0, 0), (14, .return_, 1, 0, 0, 0, 0)]
def T_82 : List TE := T_82_0
def T_83_0 : List TE := [(0, .iconst 0, 1, 0, 0, 0, 0), (1, .istore_n 2, 1, 0, 0, 0, 0), (2, .iload_n 2, 1, 0, 0, 0, 0), (3, .aload_n 0, 1, 0, 0, 0, 0), (4, .arraylength, 1, 0, 0, 0, 0), (5, .if_icmp .ge 13, 3, 18, 0, 0, 0), (8, .aload_n 0, 1, 0, 0, 0, 0), (9, .iload_n 2, 1, 0, 0, 0, 0), (10, .iload_n 1, 1, 0, 0, 0, 0), (11, .iastore, 1, 0, 0, 0, 0), (12, .iinc 2 1, 3, 0, 0, 0, 0), (15, .goto (-13), 3, 2, 0, 0, 0), (18, .return_, 1, 0, 0, 0, 0)]
def T_83 : List TE := T_83_0
def T_84_0 : List TE := [(0, .iconst 0, 1, 0, 0, 0, 0), (1, .istore_n 2, 1, 0, 0, 0, 0), (2, .iload_n 2, 1, 0, 0, 0, 0), (3, .aload_n 1, 1, 0, 0, 0, 0), (4, .arraylength, 1, 0, 0, 0, 0), (5, .if_icmp .ge 17, 3, 22, 0, 0, 0), (8, .aload_n 1, 1, 0, 0, 0, 0), (9, .iload_n 2, 1, 0, 0, 0, 0), (10, .aload_n 0, 1, 0, 0, 0, 0), (11, .iload_n 2, 1, 0, 0, 0, 0), (12, .invokestatic 144, 3, 1, 81, 479, 2), (15, .iastore, 1, 0, 0, 0, 0), (16, .iinc 2 1, 3, 0, 0, 0, 0), (19, .goto (-17), 3, 2, 0, 0, 0), (22, .return_, 1, 0, 0, 0, 0)]
def T_84 : List TE := T_84_0
def T_85_0 : List TE := [(0, .aload_n 0, 1, 0, 0, 0, 0), (1, .invokespecial 1, 3, 5, 0, 679, 0), (4, .aload_n 0, 1, 0, 0, 0, 0), (5, .bipush 18, 2, 0, 0, 0, 0), (7, .newarray .int, 2, 0, 0, 0, 0), (9, .putfield 7, 3, 8, 0, 680, 0), (12, .aload_n 0, 1, 0, 0, 0, 0), (13, .bipush 12, 2, 0, 0, 0, 0), (15, .newarray .int, 2, 0, 0, 0, 0), (17, .putfield 13, 3, 8, 5, 685, 0), (20, .aload_n 0, 1, 0, 0, 0, 0), (21, .bipush 6, 2, 0, 0, 0, 0), (23, .newarray .int, 2, 0, 0, 0, 0), (25, .putfield 16, 3, 8, 11, 691, 0), (28, .aload_n 0, 1, 0, 0, 0, 0), (29, .bipush 6, 2, 0, 0, 0, 0), (31, .newarray .int, 2, 0, 0, 0, 0), (33, .putfield 19, 3, 8, 12, 692, 0), (36, .aload_n 0, 1, 0, 0, 0, 0), (37, .bipush 12, 2, 0, 0, 0, 0), (39, .newarray .int, 2, 0, 0, 0, 0), (41, .putfield 22, 3, 8, 13, 693, 0), (44, .aload_n 0, 1, 0, 0, 0, 0), (45, .bipush 12, 2, 0, 0, 0, 0), (47, .newarray .int, 2, 0, 0, 0, 0), (49, .putfield 25, 3, 8, 14, 694, 0), (52, .aload_n 0, 1, 0, 0, 0, 0), (53, .bipush 8, 2, 0, 0, 0, 0), (55, .newarray .int, 2, 0, 0, 0, 0), (57, .putfield 28, 3, 8, 17, 697, 0), (60, .aload_n 0, 1, 0, 0, 0, 0), (61, .bipush 12, 2, 0, 0, 0, 0), (63, .newarray .int, 2, 0, 0, 0, 0), (65, .putfield 31, 3, 8, 18, 698, 0), (68, .aload_n 0, 1, 0, 0, 0, 0), (69, .bipush 12, 2, 0, 0, 0, 0), (71, .newarray .int, 2, 0, 0, 0, 0), (73, .putfield 34, 3, 8, 19, 699, 0), (76, .aload_n 0, 1, 0, 0, 0, 0), (77, .iconst 3, 1, 0, 0, 0, 0)]
def T_85_1 : List TE := [(78, .newarray .int, 2, 0, 0, 0, 0), (80, .putfield 37, 3, 8, 21, 701, 0), (83, .aload_n 0, 1, 0, 0, 0, 0), (84, .bipush 6, 2, 0, 0, 0, 0), (86, .newarray .int, 2, 0, 0, 0, 0), (88, .putfield 40, 3, 8, 27, 707, 0), (91, .aload_n 0, 1, 0, 0, 0, 0), (92, .bipush 6, 2, 0, 0, 0, 0), (94, .newarray .int, 2, 0, 0, 0, 0), (96, .putfield 43, 3, 8, 28, 708, 0), (99, .aload_n 0, 1, 0, 0, 0, 0), (100, .bipush 8, 2, 0, 0, 0, 0), (102, .newarray .int, 2, 0, 0, 0, 0), (104, .putfield 46, 3, 8, 29, 709, 0), (107, .aload_n 0, 1, 0, 0, 0, 0), (108, .iconst (-1), 1, 0, 0, 0, 0), (109, .putfield 49, 3, 8, 22, 702, 0), (112, .return_, 1, 0, 0, 0, 0)]
def T_85 : List TE := T_85_0 ++ T_85_1
def T_86_0 : List TE := [(0, .lload_n 0, 1, 0, 0, 0, 0), (1, .lload_n 2, 1, 0, 0, 0, 0), (2, .lcmp, 1, 0, 0, 0, 0), (3, .ifCond .lt 14, 3, 17, 0, 0, 0), (6, .lload_n 0, 1, 0, 0, 0, 0), (7, .lload 4, 2, 0, 0, 0, 0), (9, .lcmp, 1, 0, 0, 0, 0), (10, .ifCond .gt 7, 3, 17, 0, 0, 0), (13, .iconst 1, 1, 0, 0, 0, 0), (14, .goto 4, 3, 18, 0, 0, 0), (17, .iconst 0, 1, 0, 0, 0, 0), (18, .ireturn, 1, 0, 0, 0, 0)]
def T_86 : List TE := T_86_0
def T_87_0 : List TE := [(0, .iload_n 1, 1, 0, 0, 0, 0), (1, .i2l, 1, 0, 0, 0, 0), (2, .lconst 1, 1, 0, 0, 0, 0), (3, .ldc2_w 53, 3, 0, 0, 778, 126), (6, .invokestatic 55, 3, 1, 86, 779, 3), (9, .ifCond .ne 6, 3, 15, 0, 0, 0), (12, .bipush (-102), 2, 0, 0, 0, 0), (14, .ireturn, 1, 0, 0, 0, 0), (15, .aload_n 0, 1, 0, 0, 0, 0), (16, .getfield 59, 3, 8, 1, 681, 0), (19, .bipush 18, 2, 0, 0, 0, 0), (21, .if_icmp .ne 6, 3, 27, 0, 0, 0), (24, .bipush (-104), 2, 0, 0, 0, 0), (26, .ireturn, 1, 0, 0, 0, 0), (27, .aload_n 0, 1, 0, 0, 0, 0), (28, .getfield 7, 3, 8, 0, 680, 0), (31, .aload_n 0, 1, 0, 0, 0, 0), (32, .getfield 59, 3, 8, 1, 681, 0), (35, .iload_n 1, 1, 0, 0, 0, 0), (36, .iastore, 1, 0, 0, 0, 0), (37, .aload_n 0, 1, 0, 0, 0, 0), (38, .dup, 1, 0, 0, 0, 0), (39, .getfield 59, 3, 8, 1, 681, 0), (42, .iconst 1, 1, 0, 0, 0, 0), (43, .iadd, 1, 0, 0, 0, 0), (44, .putfield 59, 3, 8, 1, 681, 0), (47, .aload_n 0, 1, 0, 0, 0, 0), (48, .getfield 59, 3, 8, 1, 681, 0), (51, .ireturn, 1, 0, 0, 0, 0)]
def T_87 : List TE := T_87_0
def T_88_0 : List TE := [(0, .aload_n 0, 1, 0, 0, 0, 0), (1, .getfield 59, 3, 8, 1, 681, 0), (4, .istore_n 1, 1, 0, 0, 0, 0), (5, .aload_n 0, 1, 0, 0, 0, 0), (6, .iconst 0, 1, 0, 0, 0, 0), (7, .putfield 59, 3, 8, 1, 681, 0), (10, .iload_n 1, 1, 0, 0, 0, 0), (11, .ireturn, 1, 0, 0, 0, 0)]
def T_88 : List TE := T_88_0
def T_89_0 : List TE := [(0, .iload_n 0, 1, 0, 0, 0, 0), (1, .lookupswitch 82 #[(35, 69), (46, 67), (98, 73), (102, 75), (109, 71), (118, 79), (119, 77)], 67, 0, 0, 0, 0), (68, .iconst 0, 1, 0, 0, 0, 0), (69, .ireturn, 1, 0, 0, 0, 0), (70, .iconst 1, 1, 0, 0, 0, 0), (71, .ireturn, 1, 0, 0, 0, 0), (72, .iconst 2, 1, 0, 0, 0, 0), (73, .ireturn, 1, 0, 0, 0, 0), (74, .iconst 3, 1, 0, 0, 0, 0), (75, .ireturn, 1, 0, 0, 0, 0), (76, .iconst 4, 1, 0, 0, 0, 0), (77, .ireturn, 1, 0, 0, 0, 0), (78, .iconst 5, 1, 0, 0, 0, 0), (79, .ireturn, 1, 0, 0, 0, 0), (80, .bipush 6, 2, 0, 0, 0, 0), (82, .ireturn, 1, 0, 0, 0, 0), (83, .iconst (-1), 1, 0, 0, 0, 0), (84, .ireturn, 1, 0, 0, 0, 0)]
def T_89 : List TE := T_89_0
def T_90_0 : List TE := [(0, .iload_n 0, 1, 0, 0, 0, 0), (1, .bipush 13, 2, 0, 0, 0, 0), (3, .if_icmp .le 50, 3, 53, 0, 0, 0), (6, .iload_n 0, 1, 0, 0, 0, 0), (7, .bipush 14, 2, 0, 0, 0, 0), (9, .if_icmp .ne 17, 3, 26, 0, 0, 0), (12, .iload_n 1, 1, 0, 0, 0, 0), (13, .bipush 59, 2, 0, 0, 0, 0), (15, .if_icmp .ne 7, 3, 22, 0, 0, 0), (18, .iconst 1, 1, 0, 0, 0, 0), (19, .goto 33, 3, 52, 0, 0, 0), (22, .iconst 0, 1, 0, 0, 0, 0), (23, .goto 29, 3, 52, 0, 0, 0), (26, .iload_n 0, 1, 0, 0, 0, 0), (27, .bipush 15, 2, 0, 0, 0, 0), (29, .if_icmp .ne 22, 3, 51, 0, 0, 0), (32, .iload_n 1, 1, 0, 0, 0, 0), (33, .bipush 48, 2, 0, 0, 0, 0), (35, .isub, 1, 0, 0, 0, 0), (36, .i2l, 1, 0, 0, 0, 0), (37, .lconst 1, 1, 0, 0, 0, 0), (38, .ldc2_w 62, 3, 0, 0, 797, 9), (41, .invokestatic 55, 3, 1, 86, 779, 3), (44, .ifCond .eq 7, 3, 51, 0, 0, 0), (47, .iconst 1, 1, 0, 0, 0, 0), (48, .goto 4, 3, 52, 0, 0, 0), (51, .iconst 0, 1, 0, 0, 0, 0), (52, .ireturn, 1, 0, 0, 0, 0), (53, .iload_n 0, 1, 0, 0, 0, 0), (54, .iconst 5, 1, 0, 0, 0, 0), (55, .irem, 1, 0, 0, 0, 0), (56, .iconst 4, 1, 0, 0, 0, 0), (57, .if_icmp .ne 17, 3, 74, 0, 0, 0), (60, .iload_n 1, 1, 0, 0, 0, 0), (61, .bipush 44, 2, 0, 0, 0, 0), (63, .if_icmp .ne 7, 3, 70, 0, 0, 0), (66, .iconst 1, 1, 0, 0, 0, 0), (67, .goto 20, 3, 87, 0, 0, 0), (70, .iconst 0, 1, 0, 0, 0, 0), (71, .goto 16, 3, 87, 0, 0, 0)]
def T_90_1 : List TE := [(74, .iload_n 1, 1, 0, 0, 0, 0), (75, .invokestatic 64, 3, 1, 89, 798, 1), (78, .iconst (-1), 1, 0, 0, 0, 0), (79, .if_icmp .eq 7, 3, 86, 0, 0, 0), (82, .iconst 1, 1, 0, 0, 0, 0), (83, .goto 4, 3, 87, 0, 0, 0), (86, .iconst 0, 1, 0, 0, 0, 0), (87, .ireturn, 1, 0, 0, 0, 0)]
def T_90 : List TE := T_90_0 ++ T_90_1
def T_91_0 : List TE := [(0, .iconst 0, 1, 0, 0, 0, 0), (1, .istore_n 1, 1, 0, 0, 0, 0), (2, .iload_n 1, 1, 0, 0, 0, 0), (3, .aload_n 0, 1, 0, 0, 0, 0), (4, .getfield 59, 3, 8, 1, 681, 0), (7, .if_icmp .ge 22, 3, 29, 0, 0, 0), (10, .iload_n 1, 1, 0, 0, 0, 0), (11, .aload_n 0, 1, 0, 0, 0, 0), (12, .getfield 7, 3, 8, 0, 680, 0), (15, .iload_n 1, 1, 0, 0, 0, 0), (16, .iaload, 1, 0, 0, 0, 0), (17, .invokestatic 68, 3, 1, 90, 794, 2), (20, .ifCond .eq 9, 3, 29, 0, 0, 0), (23, .iinc 1 1, 3, 0, 0, 0, 0), (26, .goto (-24), 3, 2, 0, 0, 0), (29, .iload_n 1, 1, 0, 0, 0, 0), (30, .ireturn, 1, 0, 0, 0, 0)]
def T_91 : List TE := T_91_0
def T_92_0 : List TE := [(0, .aload_n 0, 1, 0, 0, 0, 0), (1, .invokevirtual 72, 3, 0, 91, 790, 0), (4, .ireturn, 1, 0, 0, 0, 0)]
def T_92 : List TE := T_92_0
def T_93_0 : List TE := [(0, .iconst 0, 1, 0, 0, 0, 0), (1, .istore_n 1, 1, 0, 0, 0, 0), (2, .iconst 0, 1, 0, 0, 0, 0), (3, .istore_n 2, 1, 0, 0, 0, 0), (4, .iload_n 2, 1, 0, 0, 0, 0), (5, .bipush 12, 2, 0, 0, 0, 0), (7, .if_icmp .ge 33, 3, 40, 0, 0, 0), (10, .aload_n 0, 1, 0, 0, 0, 0), (11, .getfield 76, 3, 8, 2, 682, 0), (14, .ifCond .le 26, 3, 40, 0, 0, 0), (17, .iload_n 1, 1, 0, 0, 0, 0), (18, .aload_n 0, 1, 0, 0, 0, 0), (19, .getfield 13, 3, 8, 5, 685, 0), (22, .iload_n 2, 1, 0, 0, 0, 0), (23, .iaload, 1, 0, 0, 0, 0), (24, .ifCond .ne 7, 3, 31, 0, 0, 0), (27, .iconst 1, 1, 0, 0, 0, 0), (28, .goto 4, 3, 32, 0, 0, 0), (31, .iconst 0, 1, 0, 0, 0, 0), (32, .iadd, 1, 0, 0, 0, 0), (33, .istore_n 1, 1, 0, 0, 0, 0), (34, .iinc 2 1, 3, 0, 0, 0, 0), (37, .goto (-33), 3, 4, 0, 0, 0), (40, .iload_n 1, 1, 0, 0, 0, 0), (41, .ireturn, 1, 0, 0, 0, 0)]
def T_93 : List TE := T_93_0
def T_94_0 : List TE := [(0, .aload_n 0, 1, 0, 0, 0, 0), (1, .getfield 59, 3, 8, 1, 681, 0), (4, .bipush 16, 2, 0, 0, 0, 0), (6, .if_icmp .ne 12, 3, 18, 0, 0, 0), (9, .aload_n 0, 1, 0, 0, 0, 0), (10, .invokevirtual 72, 3, 0, 91, 790, 0), (13, .bipush 16, 2, 0, 0, 0, 0), (15, .if_icmp .ge 6, 3, 21, 0, 0, 0), (18, .bipush (-103), 2, 0, 0, 0, 0), (20, .ireturn, 1, 0, 0, 0, 0), (21, .iconst 0, 1, 0, 0, 0, 0), (22, .istore_n 1, 1, 0, 0, 0, 0), (23, .iload_n 1, 1, 0, 0, 0, 0), (24, .bipush 12, 2, 0, 0, 0, 0), (26, .if_icmp .ge 28, 3, 54, 0, 0, 0), (29, .aload_n 0, 1, 0, 0, 0, 0), (30, .getfield 13, 3, 8, 5, 685, 0), (33, .iload_n 1, 1, 0, 0, 0, 0), (34, .aload_n 0, 1, 0, 0, 0, 0), (35, .getfield 7, 3, 8, 0, 680, 0), (38, .iload_n 1, 1, 0, 0, 0, 0), (39, .iload_n 1, 1, 0, 0, 0, 0), (40, .iconst 4, 1, 0, 0, 0, 0), (41, .idiv, 1, 0, 0, 0, 0), (42, .iadd, 1, 0, 0, 0, 0), (43, .iaload, 1, 0, 0, 0, 0), (44, .invokestatic 64, 3, 1, 89, 798, 1), (47, .iastore, 1, 0, 0, 0, 0), (48, .iinc 1 1, 3, 0, 0, 0, 0), (51, .goto (-28), 3, 23, 0, 0, 0), (54, .aload_n 0, 1, 0, 0, 0, 0), (55, .aload_n 0, 1, 0, 0, 0, 0), (56, .getfield 7, 3, 8, 0, 680, 0), (59, .bipush 15, 2, 0, 0, 0, 0), (61, .iaload, 1, 0, 0, 0, 0), (62, .bipush 48, 2, 0, 0, 0, 0), (64, .isub, 1, 0, 0, 0, 0), (65, .putfield 76, 3, 8, 2, 682, 0), (68, .aload_n 0, 1, 0, 0, 0, 0), (69, .iconst 0, 1, 0, 0, 0, 0)]
def T_94_1 : List TE := [(70, .putfield 79, 3, 8, 3, 683, 0), (73, .aload_n 0, 1, 0, 0, 0, 0), (74, .iconst 0, 1, 0, 0, 0, 0), (75, .putfield 82, 3, 8, 9, 689, 0), (78, .aload_n 0, 1, 0, 0, 0, 0), (79, .iconst 0, 1, 0, 0, 0, 0), (80, .putfield 85, 3, 8, 10, 690, 0), (83, .aload_n 0, 1, 0, 0, 0, 0), (84, .iconst 0, 1, 0, 0, 0, 0), (85, .putfield 88, 3, 8, 16, 696, 0), (88, .aload_n 0, 1, 0, 0, 0, 0), (89, .dup, 1, 0, 0, 0, 0), (90, .getfield 91, 3, 8, 4, 684, 0), (93, .iconst 1, 1, 0, 0, 0, 0), (94, .iadd, 1, 0, 0, 0, 0), (95, .putfield 91, 3, 8, 4, 684, 0), (98, .aload_n 0, 1, 0, 0, 0, 0), (99, .iconst 0, 1, 0, 0, 0, 0), (100, .putfield 59, 3, 8, 1, 681, 0), (103, .aload_n 0, 1, 0, 0, 0, 0), (104, .invokevirtual 94, 3, 0, 93, 805, 0), (107, .ireturn, 1, 0, 0, 0, 0)]
def T_94 : List TE := T_94_0 ++ T_94_1
def T_95_0 : List TE := [(0, .aload_n 0, 1, 0, 0, 0, 0), (1, .getfield 76, 3, 8, 2, 682, 0), (4, .ifCond .ne 7, 3, 11, 0, 0, 0), (7, .iconst 1, 1, 0, 0, 0, 0), (8, .goto 4, 3, 12, 0, 0, 0), (11, .iconst 0, 1, 0, 0, 0, 0), (12, .ireturn, 1, 0, 0, 0, 0)]
def T_95 : List TE := T_95_0
def T_96_0 : List TE := [(0, .iload_n 1, 1, 0, 0, 0, 0), (1, .i2l, 1, 0, 0, 0, 0), (2, .lconst 0, 1, 0, 0, 0, 0), (3, .ldc2_w 97, 3, 0, 0, 817, 11), (6, .invokestatic 55, 3, 1, 86, 779, 3), (9, .ifCond .eq 14, 3, 23, 0, 0, 0), (12, .aload_n 0, 1, 0, 0, 0, 0), (13, .invokevirtual 99, 3, 0, 95, 818, 0), (16, .ifCond .ne 7, 3, 23, 0, 0, 0), (19, .iconst 1, 1, 0, 0, 0, 0), (20, .goto 4, 3, 24, 0, 0, 0), (23, .iconst 0, 1, 0, 0, 0, 0), (24, .ireturn, 1, 0, 0, 0, 0)]
def T_96 : List TE := T_96_0
def T_97_0 : List TE := [(0, .iload_n 0, 1, 0, 0, 0, 0), (1, .iconst 4, 1, 0, 0, 0, 0), (2, .irem, 1, 0, 0, 0, 0), (3, .istore_n 2, 1, 0, 0, 0, 0), (4, .iload_n 1, 1, 0, 0, 0, 0), (5, .ifCond .ne 16, 3, 21, 0, 0, 0), (8, .iload_n 2, 1, 0, 0, 0, 0), (9, .iconst 3, 1, 0, 0, 0, 0), (10, .if_icmp .ge 9, 3, 19, 0, 0, 0), (13, .iload_n 0, 1, 0, 0, 0, 0), (14, .iconst 1, 1, 0, 0, 0, 0), (15, .iadd, 1, 0, 0, 0, 0), (16, .goto 4, 3, 20, 0, 0, 0), (19, .iconst (-1), 1, 0, 0, 0, 0), (20, .ireturn, 1, 0, 0, 0, 0), (21, .iload_n 1, 1, 0, 0, 0, 0), (22, .iconst 2, 1, 0, 0, 0, 0), (23, .if_icmp .ne 15, 3, 38, 0, 0, 0), (26, .iload_n 2, 1, 0, 0, 0, 0), (27, .ifCond .le 9, 3, 36, 0, 0, 0), (30, .iload_n 0, 1, 0, 0, 0, 0), (31, .iconst 1, 1, 0, 0, 0, 0), (32, .isub, 1, 0, 0, 0, 0), (33, .goto 4, 3, 37, 0, 0, 0), (36, .iconst (-1), 1, 0, 0, 0, 0), (37, .ireturn, 1, 0, 0, 0, 0), (38, .iload_n 1, 1, 0, 0, 0, 0), (39, .iconst 1, 1, 0, 0, 0, 0), (40, .if_icmp .ne 19, 3, 59, 0, 0, 0), (43, .iload_n 0, 1, 0, 0, 0, 0), (44, .bipush 8, 2, 0, 0, 0, 0), (46, .if_icmp .ge 9, 3, 55, 0, 0, 0), (49, .iload_n 0, 1, 0, 0, 0, 0), (50, .iconst 4, 1, 0, 0, 0, 0), (51, .iadd, 1, 0, 0, 0, 0), (52, .goto 19, 3, 71, 0, 0, 0), (55, .iconst (-1), 1, 0, 0, 0, 0), (56, .goto 15, 3, 71, 0, 0, 0), (59, .iload_n 0, 1, 0, 0, 0, 0), (60, .iconst 3, 1, 0, 0, 0, 0)]
def T_97_1 : List TE := [(61, .if_icmp .le 9, 3, 70, 0, 0, 0), (64, .iload_n 0, 1, 0, 0, 0, 0), (65, .iconst 4, 1, 0, 0, 0, 0), (66, .isub, 1, 0, 0, 0, 0), (67, .goto 4, 3, 71, 0, 0, 0), (70, .iconst (-1), 1, 0, 0, 0, 0), (71, .ireturn, 1, 0, 0, 0, 0)]
def T_97 : List TE := T_97_0 ++ T_97_1
def T_98_0 : List TE := [(0, .iload_n 1, 1, 0, 0, 0, 0), (1, .tableswitch 73 0 5 #[39, 73, 41, 45, 49, 55], 39, 0, 0, 0, 0), (40, .iload_n 2, 1, 0, 0, 0, 0), (41, .ireturn, 1, 0, 0, 0, 0), (42, .iconst 3, 1, 0, 0, 0, 0), (43, .iload_n 2, 1, 0, 0, 0, 0), (44, .isub, 1, 0, 0, 0, 0), (45, .ireturn, 1, 0, 0, 0, 0), (46, .iload_n 2, 1, 0, 0, 0, 0), (47, .iconst 1, 1, 0, 0, 0, 0), (48, .ixor, 1, 0, 0, 0, 0), (49, .ireturn, 1, 0, 0, 0, 0), (50, .iload_n 2, 1, 0, 0, 0, 0), (51, .iconst 2, 1, 0, 0, 0, 0), (52, .iadd, 1, 0, 0, 0, 0), (53, .iconst 4, 1, 0, 0, 0, 0), (54, .irem, 1, 0, 0, 0, 0), (55, .ireturn, 1, 0, 0, 0, 0), (56, .aload_n 0, 1, 0, 0, 0, 0), (57, .getfield 79, 3, 8, 3, 683, 0), (60, .iconst 1, 1, 0, 0, 0, 0), (61, .if_icmp .ne 11, 3, 72, 0, 0, 0), (64, .iload_n 2, 1, 0, 0, 0, 0), (65, .iconst 2, 1, 0, 0, 0, 0), (66, .iadd, 1, 0, 0, 0, 0), (67, .iconst 4, 1, 0, 0, 0, 0), (68, .irem, 1, 0, 0, 0, 0), (69, .goto 4, 3, 73, 0, 0, 0), (72, .iload_n 2, 1, 0, 0, 0, 0), (73, .ireturn, 1, 0, 0, 0, 0), (74, .iconst (-1), 1, 0, 0, 0, 0), (75, .ireturn, 1, 0, 0, 0, 0)]
def T_98 : List TE := T_98_0
def T_99_0 : List TE := [(0, .aload_n 0, 1, 0, 0, 0, 0), (1, .iconst 0, 1, 0, 0, 0, 0), (2, .putfield 103, 3, 8, 6, 686, 0), (5, .aload_n 0, 1, 0, 0, 0, 0), (6, .iconst 0, 1, 0, 0, 0, 0), (7, .putfield 106, 3, 8, 7, 687, 0), (10, .aload_n 0, 1, 0, 0, 0, 0), (11, .iconst 0, 1, 0, 0, 0, 0), (12, .putfield 109, 3, 8, 8, 688, 0), (15, .iload_n 1, 1, 0, 0, 0, 0), (16, .iload_n 2, 1, 0, 0, 0, 0), (17, .invokestatic 112, 3, 1, 97, 830, 2), (20, .istore_n 3, 1, 0, 0, 0, 0), (21, .iload_n 2, 1, 0, 0, 0, 0), (22, .istore 4, 2, 0, 0, 0, 0), (24, .iconst 1, 1, 0, 0, 0, 0), (25, .istore 5, 2, 0, 0, 0, 0), (27, .iload 5, 2, 0, 0, 0, 0), (29, .ifCond .eq 188, 3, 217, 0, 0, 0), (32, .iload_n 3, 1, 0, 0, 0, 0), (33, .iconst (-1), 1, 0, 0, 0, 0), (34, .if_icmp .eq 183, 3, 217, 0, 0, 0), (37, .aload_n 0, 1, 0, 0, 0, 0), (38, .aload_n 0, 1, 0, 0, 0, 0), (39, .getfield 13, 3, 8, 5, 685, 0), (42, .iload_n 3, 1, 0, 0, 0, 0), (43, .iaload, 1, 0, 0, 0, 0), (44, .iload 4, 2, 0, 0, 0, 0), (46, .invokevirtual 116, 3, 0, 98, 833, 2), (49, .istore 6, 2, 0, 0, 0, 0), (51, .iload 6, 2, 0, 0, 0, 0), (53, .iconst (-1), 1, 0, 0, 0, 0), (54, .if_icmp .eq 14, 3, 68, 0, 0, 0), (57, .iload 6, 2, 0, 0, 0, 0), (59, .iload 4, 2, 0, 0, 0, 0), (61, .if_icmp .eq 7, 3, 68, 0, 0, 0), (64, .iconst 1, 1, 0, 0, 0, 0), (65, .goto 4, 3, 69, 0, 0, 0), (68, .iconst 0, 1, 0, 0, 0, 0), (69, .istore 7, 2, 0, 0, 0, 0)]
def T_99_1 : List TE := [(71, .iload 6, 2, 0, 0, 0, 0), (73, .iconst (-1), 1, 0, 0, 0, 0), (74, .if_icmp .eq 23, 3, 97, 0, 0, 0), (77, .iload 7, 2, 0, 0, 0, 0), (79, .ifCond .eq 14, 3, 93, 0, 0, 0), (82, .aload_n 0, 1, 0, 0, 0, 0), (83, .getfield 109, 3, 8, 8, 688, 0), (86, .aload_n 0, 1, 0, 0, 0, 0), (87, .getfield 76, 3, 8, 2, 682, 0), (90, .if_icmp .eq 7, 3, 97, 0, 0, 0), (93, .iconst 1, 1, 0, 0, 0, 0), (94, .goto 4, 3, 98, 0, 0, 0), (97, .iconst 0, 1, 0, 0, 0, 0), (98, .istore 5, 2, 0, 0, 0, 0), (100, .iload 5, 2, 0, 0, 0, 0), (102, .ifCond .eq 112, 3, 214, 0, 0, 0), (105, .aload_n 0, 1, 0, 0, 0, 0), (106, .dup, 1, 0, 0, 0, 0), (107, .getfield 109, 3, 8, 8, 688, 0), (110, .iload 7, 2, 0, 0, 0, 0), (112, .ifCond .eq 7, 3, 119, 0, 0, 0), (115, .iconst 1, 1, 0, 0, 0, 0), (116, .goto 4, 3, 120, 0, 0, 0), (119, .iconst 0, 1, 0, 0, 0, 0), (120, .iadd, 1, 0, 0, 0, 0), (121, .putfield 109, 3, 8, 8, 688, 0), (124, .aload_n 0, 1, 0, 0, 0, 0), (125, .getfield 13, 3, 8, 5, 685, 0), (128, .iload_n 3, 1, 0, 0, 0, 0), (129, .iaload, 1, 0, 0, 0, 0), (130, .ifCond .ne 18, 3, 148, 0, 0, 0), (133, .aload_n 0, 1, 0, 0, 0, 0), (134, .getfield 103, 3, 8, 6, 686, 0), (137, .iload_n 3, 1, 0, 0, 0, 0), (138, .ishr, 1, 0, 0, 0, 0), (139, .iconst 1, 1, 0, 0, 0, 0), (140, .iand, 1, 0, 0, 0, 0), (141, .ifCond .ne 7, 3, 148, 0, 0, 0), (144, .iconst 1, 1, 0, 0, 0, 0), (145, .goto 4, 3, 149, 0, 0, 0)]
def T_99_2 : List TE := [(148, .iconst 0, 1, 0, 0, 0, 0), (149, .istore 8, 2, 0, 0, 0, 0), (151, .aload_n 0, 1, 0, 0, 0, 0), (152, .dup, 1, 0, 0, 0, 0), (153, .getfield 103, 3, 8, 6, 686, 0), (156, .iload 8, 2, 0, 0, 0, 0), (158, .ifCond .eq 9, 3, 167, 0, 0, 0), (161, .iconst 1, 1, 0, 0, 0, 0), (162, .iload_n 3, 1, 0, 0, 0, 0), (163, .ishl, 1, 0, 0, 0, 0), (164, .goto 4, 3, 168, 0, 0, 0), (167, .iconst 0, 1, 0, 0, 0, 0), (168, .ior, 1, 0, 0, 0, 0), (169, .putfield 103, 3, 8, 6, 686, 0), (172, .aload_n 0, 1, 0, 0, 0, 0), (173, .dup, 1, 0, 0, 0, 0), (174, .getfield 106, 3, 8, 7, 687, 0), (177, .iload 8, 2, 0, 0, 0, 0), (179, .ifCond .eq 19, 3, 198, 0, 0, 0), (182, .aload_n 0, 1, 0, 0, 0, 0), (183, .getfield 109, 3, 8, 8, 688, 0), (186, .iconst 2, 1, 0, 0, 0, 0), (187, .irem, 1, 0, 0, 0, 0), (188, .iconst 1, 1, 0, 0, 0, 0), (189, .if_icmp .ne 9, 3, 198, 0, 0, 0), (192, .iconst 1, 1, 0, 0, 0, 0), (193, .iload_n 3, 1, 0, 0, 0, 0), (194, .ishl, 1, 0, 0, 0, 0), (195, .goto 4, 3, 199, 0, 0, 0), (198, .iconst 0, 1, 0, 0, 0, 0), (199, .ior, 1, 0, 0, 0, 0), (200, .putfield 106, 3, 8, 7, 687, 0), (203, .iload 6, 2, 0, 0, 0, 0), (205, .istore 4, 2, 0, 0, 0, 0), (207, .iload_n 3, 1, 0, 0, 0, 0), (208, .iload 4, 2, 0, 0, 0, 0), (210, .invokestatic 112, 3, 1, 97, 830, 2), (213, .istore_n 3, 1, 0, 0, 0, 0), (214, .goto (-187), 3, 27, 0, 0, 0), (217, .return_, 1, 0, 0, 0, 0)]
def T_99 : List TE := T_99_0 ++ T_99_1 ++ T_99_2
def T_100_0 : List TE := [(0, .iload_n 1, 1, 0, 0, 0, 0), (1, .i2l, 1, 0, 0, 0, 0), (2, .lconst 0, 1, 0, 0, 0, 0), (3, .aload_n 0, 1, 0, 0, 0, 0), (4, .getfield 82, 3, 8, 9, 689, 0), (7, .iconst 1, 1, 0, 0, 0, 0), (8, .isub, 1, 0, 0, 0, 0), (9, .i2l, 1, 0, 0, 0, 0), (10, .invokestatic 55, 3, 1, 86, 779, 3), (13, .ireturn, 1, 0, 0, 0, 0)]
def T_100 : List TE := T_100_0
def T_101_0 : List TE := [(0, .iload_n 1, 1, 0, 0, 0, 0), (1, .i2l, 1, 0, 0, 0, 0), (2, .lconst 0, 1, 0, 0, 0, 0), (3, .aload_n 0, 1, 0, 0, 0, 0), (4, .getfield 85, 3, 8, 10, 690, 0), (7, .iconst 1, 1, 0, 0, 0, 0), (8, .isub, 1, 0, 0, 0, 0), (9, .i2l, 1, 0, 0, 0, 0), (10, .invokestatic 55, 3, 1, 86, 779, 3), (13, .ireturn, 1, 0, 0, 0, 0)]
def T_101 : List TE := T_101_0
def T_102_0 : List TE := [(0, .iload_n 0, 1, 0, 0, 0, 0), (1, .i2l, 1, 0, 0, 0, 0), (2, .lconst 0, 1, 0, 0, 0, 0), (3, .ldc2_w 119, 3, 0, 0, 853, 3), (6, .invokestatic 55, 3, 1, 86, 779, 3), (9, .ireturn, 1, 0, 0, 0, 0)]
def T_102 : List TE := T_102_0
def T_103_0 : List TE := [(0, .iconst 0, 1, 0, 0, 0, 0), (1, .istore_n 1, 1, 0, 0, 0, 0), (2, .iconst 0, 1, 0, 0, 0, 0), (3, .istore_n 2, 1, 0, 0, 0, 0), (4, .iload_n 2, 1, 0, 0, 0, 0), (5, .aload_n 0, 1, 0, 0, 0, 0), (6, .getfield 82, 3, 8, 9, 689, 0), (9, .if_icmp .ge 38, 3, 47, 0, 0, 0), (12, .aload_n 0, 1, 0, 0, 0, 0), (13, .aload_n 0, 1, 0, 0, 0, 0), (14, .getfield 16, 3, 8, 11, 691, 0), (17, .iconst 2, 1, 0, 0, 0, 0), (18, .iload_n 2, 1, 0, 0, 0, 0), (19, .imul, 1, 0, 0, 0, 0), (20, .iaload, 1, 0, 0, 0, 0), (21, .aload_n 0, 1, 0, 0, 0, 0), (22, .getfield 16, 3, 8, 11, 691, 0), (25, .iconst 2, 1, 0, 0, 0, 0), (26, .iload_n 2, 1, 0, 0, 0, 0), (27, .imul, 1, 0, 0, 0, 0), (28, .iconst 1, 1, 0, 0, 0, 0), (29, .iadd, 1, 0, 0, 0, 0), (30, .iaload, 1, 0, 0, 0, 0), (31, .invokevirtual 121, 3, 0, 99, 826, 2), (34, .iload_n 1, 1, 0, 0, 0, 0), (35, .aload_n 0, 1, 0, 0, 0, 0), (36, .getfield 103, 3, 8, 6, 686, 0), (39, .ior, 1, 0, 0, 0, 0), (40, .istore_n 1, 1, 0, 0, 0, 0), (41, .iinc 2 1, 3, 0, 0, 0, 0), (44, .goto (-40), 3, 4, 0, 0, 0), (47, .iload_n 1, 1, 0, 0, 0, 0), (48, .ireturn, 1, 0, 0, 0, 0)]
def T_103 : List TE := T_103_0
def T_104_0 : List TE := [(0, .iload_n 2, 1, 0, 0, 0, 0), (1, .ifCond .ne 10, 3, 11, 0, 0, 0), (4, .aload_n 0, 1, 0, 0, 0, 0), (5, .getfield 13, 3, 8, 5, 685, 0), (8, .iload_n 1, 1, 0, 0, 0, 0), (9, .iaload, 1, 0, 0, 0, 0), (10, .ireturn, 1, 0, 0, 0, 0), (11, .iconst 0, 1, 0, 0, 0, 0), (12, .istore_n 3, 1, 0, 0, 0, 0), (13, .iconst 0, 1, 0, 0, 0, 0), (14, .istore 4, 2, 0, 0, 0, 0), (16, .iconst 0, 1, 0, 0, 0, 0), (17, .istore 5, 2, 0, 0, 0, 0), (19, .iload 5, 2, 0, 0, 0, 0), (21, .aload_n 0, 1, 0, 0, 0, 0), (22, .getfield 82, 3, 8, 9, 689, 0), (25, .if_icmp .ge 63, 3, 88, 0, 0, 0), (28, .aload_n 0, 1, 0, 0, 0, 0), (29, .aload_n 0, 1, 0, 0, 0, 0), (30, .getfield 16, 3, 8, 11, 691, 0), (33, .iconst 2, 1, 0, 0, 0, 0), (34, .iload 5, 2, 0, 0, 0, 0), (36, .imul, 1, 0, 0, 0, 0), (37, .iaload, 1, 0, 0, 0, 0), (38, .aload_n 0, 1, 0, 0, 0, 0), (39, .getfield 16, 3, 8, 11, 691, 0), (42, .iconst 2, 1, 0, 0, 0, 0), (43, .iload 5, 2, 0, 0, 0, 0), (45, .imul, 1, 0, 0, 0, 0), (46, .iconst 1, 1, 0, 0, 0, 0), (47, .iadd, 1, 0, 0, 0, 0), (48, .iaload, 1, 0, 0, 0, 0), (49, .invokevirtual 121, 3, 0, 99, 826, 2), (52, .iload_n 3, 1, 0, 0, 0, 0), (53, .aload_n 0, 1, 0, 0, 0, 0), (54, .getfield 103, 3, 8, 6, 686, 0), (57, .iload_n 1, 1, 0, 0, 0, 0), (58, .ishr, 1, 0, 0, 0, 0), (59, .iconst 1, 1, 0, 0, 0, 0), (60, .iand, 1, 0, 0, 0, 0)]
def T_104_1 : List TE := [(61, .iload 5, 2, 0, 0, 0, 0), (63, .ishl, 1, 0, 0, 0, 0), (64, .ior, 1, 0, 0, 0, 0), (65, .istore_n 3, 1, 0, 0, 0, 0), (66, .iload 4, 2, 0, 0, 0, 0), (68, .aload_n 0, 1, 0, 0, 0, 0), (69, .getfield 106, 3, 8, 7, 687, 0), (72, .iload_n 1, 1, 0, 0, 0, 0), (73, .ishr, 1, 0, 0, 0, 0), (74, .iconst 1, 1, 0, 0, 0, 0), (75, .iand, 1, 0, 0, 0, 0), (76, .iload 5, 2, 0, 0, 0, 0), (78, .ishl, 1, 0, 0, 0, 0), (79, .ior, 1, 0, 0, 0, 0), (80, .istore 4, 2, 0, 0, 0, 0), (82, .iinc 5 1, 3, 0, 0, 0, 0), (85, .goto (-66), 3, 19, 0, 0, 0), (88, .iconst 0, 1, 0, 0, 0, 0), (89, .istore 5, 2, 0, 0, 0, 0), (91, .iconst 0, 1, 0, 0, 0, 0), (92, .istore 6, 2, 0, 0, 0, 0), (94, .iload 6, 2, 0, 0, 0, 0), (96, .aload_n 0, 1, 0, 0, 0, 0), (97, .getfield 85, 3, 8, 10, 690, 0), (100, .if_icmp .ge 32, 3, 132, 0, 0, 0), (103, .iload 5, 2, 0, 0, 0, 0), (105, .aload_n 0, 1, 0, 0, 0, 0), (106, .getfield 19, 3, 8, 12, 692, 0), (109, .iconst 2, 1, 0, 0, 0, 0), (110, .iload 6, 2, 0, 0, 0, 0), (112, .imul, 1, 0, 0, 0, 0), (113, .iaload, 1, 0, 0, 0, 0), (114, .iload_n 1, 1, 0, 0, 0, 0), (115, .if_icmp .ne 7, 3, 122, 0, 0, 0), (118, .iconst 1, 1, 0, 0, 0, 0), (119, .goto 4, 3, 123, 0, 0, 0), (122, .iconst 0, 1, 0, 0, 0, 0), (123, .iadd, 1, 0, 0, 0, 0), (124, .istore 5, 2, 0, 0, 0, 0), (126, .iinc 6 1, 3, 0, 0, 0, 0)]
def T_104_2 : List TE := [(129, .goto (-35), 3, 94, 0, 0, 0), (132, .iload_n 2, 1, 0, 0, 0, 0), (133, .iconst 1, 1, 0, 0, 0, 0), (134, .if_icmp .ne 7, 3, 141, 0, 0, 0), (137, .iload_n 3, 1, 0, 0, 0, 0), (138, .goto 25, 3, 163, 0, 0, 0), (141, .iload_n 2, 1, 0, 0, 0, 0), (142, .iconst 2, 1, 0, 0, 0, 0), (143, .if_icmp .ne 8, 3, 151, 0, 0, 0), (146, .iload 4, 2, 0, 0, 0, 0), (148, .goto 15, 3, 163, 0, 0, 0), (151, .iload_n 2, 1, 0, 0, 0, 0), (152, .iconst 3, 1, 0, 0, 0, 0), (153, .if_icmp .ne 8, 3, 161, 0, 0, 0), (156, .iload 5, 2, 0, 0, 0, 0), (158, .goto 5, 3, 163, 0, 0, 0), (161, .bipush (-102), 2, 0, 0, 0, 0), (163, .ireturn, 1, 0, 0, 0, 0)]
def T_104 : List TE := T_104_0 ++ T_104_1 ++ T_104_2
def T_105_0 : List TE := [(0, .aload_n 0, 1, 0, 0, 0, 0), (1, .iload_n 1, 1, 0, 0, 0, 0), (2, .invokevirtual 125, 3, 0, 96, 813, 1), (5, .ifCond .eq 12, 3, 17, 0, 0, 0), (8, .aload_n 0, 1, 0, 0, 0, 0), (9, .iload_n 1, 1, 0, 0, 0, 0), (10, .iload_n 2, 1, 0, 0, 0, 0), (11, .invokevirtual 129, 3, 0, 104, 822, 2), (14, .goto 5, 3, 19, 0, 0, 0), (17, .bipush (-101), 2, 0, 0, 0, 0), (19, .ireturn, 1, 0, 0, 0, 0)]
def T_105 : List TE := T_105_0
def T_106_0 : List TE := [(0, .aload_n 0, 1, 0, 0, 0, 0), (1, .iload_n 1, 1, 0, 0, 0, 0), (2, .invokevirtual 125, 3, 0, 96, 813, 1), (5, .ifCond .eq 13, 3, 18, 0, 0, 0), (8, .aload_n 0, 1, 0, 0, 0, 0), (9, .getfield 13, 3, 8, 5, 685, 0), (12, .iload_n 1, 1, 0, 0, 0, 0), (13, .iaload, 1, 0, 0, 0, 0), (14, .iconst 2, 1, 0, 0, 0, 0), (15, .if_icmp .ge 6, 3, 21, 0, 0, 0), (18, .bipush (-101), 2, 0, 0, 0, 0), (20, .ireturn, 1, 0, 0, 0, 0), (21, .iload_n 2, 1, 0, 0, 0, 0), (22, .i2l, 1, 0, 0, 0, 0), (23, .lconst 0, 1, 0, 0, 0, 0), (24, .ldc2_w 132, 3, 0, 0, 841, 4), (27, .invokestatic 55, 3, 1, 86, 779, 3), (30, .ifCond .ne 6, 3, 36, 0, 0, 0), (33, .bipush (-102), 2, 0, 0, 0, 0), (35, .ireturn, 1, 0, 0, 0, 0), (36, .aload_n 0, 1, 0, 0, 0, 0), (37, .getfield 13, 3, 8, 5, 685, 0), (40, .iload_n 1, 1, 0, 0, 0, 0), (41, .iaload, 1, 0, 0, 0, 0), (42, .iconst 2, 1, 0, 0, 0, 0), (43, .isub, 1, 0, 0, 0, 0), (44, .istore_n 3, 1, 0, 0, 0, 0), (45, .iload_n 2, 1, 0, 0, 0, 0), (46, .ifCond .eq 18, 3, 64, 0, 0, 0), (49, .iload_n 2, 1, 0, 0, 0, 0), (50, .iload_n 3, 1, 0, 0, 0, 0), (51, .if_icmp .eq 13, 3, 64, 0, 0, 0), (54, .iload_n 2, 1, 0, 0, 0, 0), (55, .iconst 2, 1, 0, 0, 0, 0), (56, .if_icmp .ne 12, 3, 68, 0, 0, 0), (59, .iload_n 3, 1, 0, 0, 0, 0), (60, .iconst 3, 1, 0, 0, 0, 0), (61, .if_icmp .ne 7, 3, 68, 0, 0, 0), (64, .iconst 1, 1, 0, 0, 0, 0), (65, .goto 4, 3, 69, 0, 0, 0)]
def T_106_1 : List TE := [(68, .iconst 0, 1, 0, 0, 0, 0), (69, .istore 4, 2, 0, 0, 0, 0), (71, .iload 4, 2, 0, 0, 0, 0), (73, .ifCond .eq 7, 3, 80, 0, 0, 0), (76, .iload_n 1, 1, 0, 0, 0, 0), (77, .goto 4, 3, 81, 0, 0, 0), (80, .iconst (-1), 1, 0, 0, 0, 0), (81, .ireturn, 1, 0, 0, 0, 0)]
def T_106 : List TE := T_106_0 ++ T_106_1
def T_107_0 : List TE := [(0, .aload_n 0, 1, 0, 0, 0, 0), (1, .invokevirtual 99, 3, 0, 95, 818, 0), (4, .ifCond .eq 6, 3, 10, 0, 0, 0), (7, .bipush (-103), 2, 0, 0, 0, 0), (9, .ireturn, 1, 0, 0, 0, 0), (10, .aload_n 0, 1, 0, 0, 0, 0), (11, .getfield 79, 3, 8, 3, 683, 0), (14, .istore_n 2, 1, 0, 0, 0, 0), (15, .aload_n 0, 1, 0, 0, 0, 0), (16, .iload_n 1, 1, 0, 0, 0, 0), (17, .ifCond .eq 7, 3, 24, 0, 0, 0), (20, .iconst 1, 1, 0, 0, 0, 0), (21, .goto 4, 3, 25, 0, 0, 0), (24, .iconst 0, 1, 0, 0, 0, 0), (25, .putfield 79, 3, 8, 3, 683, 0), (28, .iload_n 2, 1, 0, 0, 0, 0), (29, .ireturn, 1, 0, 0, 0, 0)]
def T_107 : List TE := T_107_0
def T_108_0 : List TE := [(0, .aload_n 0, 1, 0, 0, 0, 0), (1, .iload_n 1, 1, 0, 0, 0, 0), (2, .invokevirtual 125, 3, 0, 96, 813, 1), (5, .ifCond .ne 6, 3, 11, 0, 0, 0), (8, .bipush (-101), 2, 0, 0, 0, 0), (10, .ireturn, 1, 0, 0, 0, 0), (11, .iload_n 2, 1, 0, 0, 0, 0), (12, .invokestatic 134, 3, 1, 102, 850, 1), (15, .ifCond .ne 6, 3, 21, 0, 0, 0), (18, .bipush (-102), 2, 0, 0, 0, 0), (20, .ireturn, 1, 0, 0, 0, 0), (21, .aload_n 0, 1, 0, 0, 0, 0), (22, .getfield 13, 3, 8, 5, 685, 0), (25, .iload_n 1, 1, 0, 0, 0, 0), (26, .iaload, 1, 0, 0, 0, 0), (27, .ifCond .eq 6, 3, 33, 0, 0, 0), (30, .bipush (-103), 2, 0, 0, 0, 0), (32, .ireturn, 1, 0, 0, 0, 0), (33, .aload_n 0, 1, 0, 0, 0, 0), (34, .getfield 82, 3, 8, 9, 689, 0), (37, .iconst 3, 1, 0, 0, 0, 0), (38, .if_icmp .ne 6, 3, 44, 0, 0, 0), (41, .bipush (-104), 2, 0, 0, 0, 0), (43, .ireturn, 1, 0, 0, 0, 0), (44, .aload_n 0, 1, 0, 0, 0, 0), (45, .getfield 16, 3, 8, 11, 691, 0), (48, .iconst 2, 1, 0, 0, 0, 0), (49, .aload_n 0, 1, 0, 0, 0, 0), (50, .getfield 82, 3, 8, 9, 689, 0), (53, .imul, 1, 0, 0, 0, 0), (54, .iload_n 1, 1, 0, 0, 0, 0), (55, .iastore, 1, 0, 0, 0, 0), (56, .aload_n 0, 1, 0, 0, 0, 0), (57, .getfield 16, 3, 8, 11, 691, 0), (60, .iconst 2, 1, 0, 0, 0, 0), (61, .aload_n 0, 1, 0, 0, 0, 0), (62, .getfield 82, 3, 8, 9, 689, 0), (65, .imul, 1, 0, 0, 0, 0), (66, .iconst 1, 1, 0, 0, 0, 0), (67, .iadd, 1, 0, 0, 0, 0)]
def T_108_1 : List TE := [(68, .iload_n 2, 1, 0, 0, 0, 0), (69, .iastore, 1, 0, 0, 0, 0), (70, .aload_n 0, 1, 0, 0, 0, 0), (71, .dup, 1, 0, 0, 0, 0), (72, .getfield 82, 3, 8, 9, 689, 0), (75, .iconst 1, 1, 0, 0, 0, 0), (76, .iadd, 1, 0, 0, 0, 0), (77, .putfield 82, 3, 8, 9, 689, 0), (80, .aload_n 0, 1, 0, 0, 0, 0), (81, .getfield 82, 3, 8, 9, 689, 0), (84, .iconst 1, 1, 0, 0, 0, 0), (85, .isub, 1, 0, 0, 0, 0), (86, .ireturn, 1, 0, 0, 0, 0)]
def T_108 : List TE := T_108_0 ++ T_108_1
def T_109_0 : List TE := [(0, .aload_n 0, 1, 0, 0, 0, 0), (1, .iload_n 1, 1, 0, 0, 0, 0), (2, .invokevirtual 137, 3, 0, 100, 858, 1), (5, .ifCond .ne 6, 3, 11, 0, 0, 0), (8, .bipush (-101), 2, 0, 0, 0, 0), (10, .ireturn, 1, 0, 0, 0, 0), (11, .iload_n 2, 1, 0, 0, 0, 0), (12, .invokestatic 134, 3, 1, 102, 850, 1), (15, .ifCond .ne 6, 3, 21, 0, 0, 0), (18, .bipush (-102), 2, 0, 0, 0, 0), (20, .ireturn, 1, 0, 0, 0, 0), (21, .aload_n 0, 1, 0, 0, 0, 0), (22, .getfield 16, 3, 8, 11, 691, 0), (25, .iconst 2, 1, 0, 0, 0, 0), (26, .iload_n 1, 1, 0, 0, 0, 0), (27, .imul, 1, 0, 0, 0, 0), (28, .iconst 1, 1, 0, 0, 0, 0), (29, .iadd, 1, 0, 0, 0, 0), (30, .iaload, 1, 0, 0, 0, 0), (31, .istore_n 3, 1, 0, 0, 0, 0), (32, .aload_n 0, 1, 0, 0, 0, 0), (33, .getfield 16, 3, 8, 11, 691, 0), (36, .iconst 2, 1, 0, 0, 0, 0), (37, .iload_n 1, 1, 0, 0, 0, 0), (38, .imul, 1, 0, 0, 0, 0), (39, .iconst 1, 1, 0, 0, 0, 0), (40, .iadd, 1, 0, 0, 0, 0), (41, .iload_n 2, 1, 0, 0, 0, 0), (42, .iastore, 1, 0, 0, 0, 0), (43, .iload_n 3, 1, 0, 0, 0, 0), (44, .ireturn, 1, 0, 0, 0, 0)]
def T_109 : List TE := T_109_0
def T_110_0 : List TE := [(0, .aload_n 0, 1, 0, 0, 0, 0), (1, .aload_n 0, 1, 0, 0, 0, 0), (2, .getfield 16, 3, 8, 11, 691, 0), (5, .iconst 2, 1, 0, 0, 0, 0), (6, .iload_n 1, 1, 0, 0, 0, 0), (7, .imul, 1, 0, 0, 0, 0), (8, .iaload, 1, 0, 0, 0, 0), (9, .aload_n 0, 1, 0, 0, 0, 0), (10, .getfield 16, 3, 8, 11, 691, 0), (13, .iconst 2, 1, 0, 0, 0, 0), (14, .iload_n 1, 1, 0, 0, 0, 0), (15, .imul, 1, 0, 0, 0, 0), (16, .iconst 1, 1, 0, 0, 0, 0), (17, .iadd, 1, 0, 0, 0, 0), (18, .iaload, 1, 0, 0, 0, 0), (19, .invokevirtual 121, 3, 0, 99, 826, 2), (22, .iload_n 2, 1, 0, 0, 0, 0), (23, .i2l, 1, 0, 0, 0, 0), (24, .lconst 0, 1, 0, 0, 0, 0), (25, .lconst 1, 1, 0, 0, 0, 0), (26, .invokestatic 55, 3, 1, 86, 779, 3), (29, .ifCond .eq 16, 3, 45, 0, 0, 0), (32, .aload_n 0, 1, 0, 0, 0, 0), (33, .getfield 16, 3, 8, 11, 691, 0), (36, .iconst 2, 1, 0, 0, 0, 0), (37, .iload_n 1, 1, 0, 0, 0, 0), (38, .imul, 1, 0, 0, 0, 0), (39, .iload_n 2, 1, 0, 0, 0, 0), (40, .iadd, 1, 0, 0, 0, 0), (41, .iaload, 1, 0, 0, 0, 0), (42, .goto 29, 3, 71, 0, 0, 0), (45, .iload_n 2, 1, 0, 0, 0, 0), (46, .iconst 2, 1, 0, 0, 0, 0), (47, .if_icmp .ne 10, 3, 57, 0, 0, 0), (50, .aload_n 0, 1, 0, 0, 0, 0), (51, .getfield 103, 3, 8, 6, 686, 0), (54, .goto 17, 3, 71, 0, 0, 0), (57, .iload_n 2, 1, 0, 0, 0, 0), (58, .iconst 3, 1, 0, 0, 0, 0), (59, .if_icmp .ne 10, 3, 69, 0, 0, 0)]
def T_110_1 : List TE := [(62, .aload_n 0, 1, 0, 0, 0, 0), (63, .getfield 109, 3, 8, 8, 688, 0), (66, .goto 5, 3, 71, 0, 0, 0), (69, .bipush (-102), 2, 0, 0, 0, 0), (71, .ireturn, 1, 0, 0, 0, 0)]
def T_110 : List TE := T_110_0 ++ T_110_1
def T_111_0 : List TE := [(0, .aload_n 0, 1, 0, 0, 0, 0), (1, .iload_n 1, 1, 0, 0, 0, 0), (2, .invokevirtual 137, 3, 0, 100, 858, 1), (5, .ifCond .eq 12, 3, 17, 0, 0, 0), (8, .aload_n 0, 1, 0, 0, 0, 0), (9, .iload_n 1, 1, 0, 0, 0, 0), (10, .iload_n 2, 1, 0, 0, 0, 0), (11, .invokevirtual 140, 3, 0, 110, 866, 2), (14, .goto 5, 3, 19, 0, 0, 0), (17, .bipush (-101), 2, 0, 0, 0, 0), (19, .ireturn, 1, 0, 0, 0, 0)]
def T_111 : List TE := T_111_0
def T_112_0 : List TE := [(0, .aload_n 0, 1, 0, 0, 0, 0), (1, .iload_n 1, 1, 0, 0, 0, 0), (2, .invokevirtual 125, 3, 0, 96, 813, 1), (5, .ifCond .ne 6, 3, 11, 0, 0, 0), (8, .bipush (-101), 2, 0, 0, 0, 0), (10, .ireturn, 1, 0, 0, 0, 0), (11, .aload_n 0, 1, 0, 0, 0, 0), (12, .getfield 13, 3, 8, 5, 685, 0), (15, .iload_n 1, 1, 0, 0, 0, 0), (16, .iaload, 1, 0, 0, 0, 0), (17, .ifCond .eq 6, 3, 23, 0, 0, 0), (20, .bipush (-103), 2, 0, 0, 0, 0), (22, .ireturn, 1, 0, 0, 0, 0), (23, .aload_n 0, 1, 0, 0, 0, 0), (24, .getfield 85, 3, 8, 10, 690, 0), (27, .iconst 3, 1, 0, 0, 0, 0), (28, .if_icmp .ne 6, 3, 34, 0, 0, 0), (31, .bipush (-104), 2, 0, 0, 0, 0), (33, .ireturn, 1, 0, 0, 0, 0), (34, .aload_n 0, 1, 0, 0, 0, 0), (35, .getfield 19, 3, 8, 12, 692, 0), (38, .iconst 2, 1, 0, 0, 0, 0), (39, .aload_n 0, 1, 0, 0, 0, 0), (40, .getfield 85, 3, 8, 10, 690, 0), (43, .imul, 1, 0, 0, 0, 0), (44, .iload_n 1, 1, 0, 0, 0, 0), (45, .iastore, 1, 0, 0, 0, 0), (46, .aload_n 0, 1, 0, 0, 0, 0), (47, .getfield 19, 3, 8, 12, 692, 0), (50, .iconst 2, 1, 0, 0, 0, 0), (51, .aload_n 0, 1, 0, 0, 0, 0), (52, .getfield 85, 3, 8, 10, 690, 0), (55, .imul, 1, 0, 0, 0, 0), (56, .iconst 1, 1, 0, 0, 0, 0), (57, .iadd, 1, 0, 0, 0, 0), (58, .iconst 0, 1, 0, 0, 0, 0), (59, .iastore, 1, 0, 0, 0, 0), (60, .aload_n 0, 1, 0, 0, 0, 0), (61, .dup, 1, 0, 0, 0, 0), (62, .getfield 85, 3, 8, 10, 690, 0)]
def T_112_1 : List TE := [(65, .iconst 1, 1, 0, 0, 0, 0), (66, .iadd, 1, 0, 0, 0, 0), (67, .putfield 85, 3, 8, 10, 690, 0), (70, .aload_n 0, 1, 0, 0, 0, 0), (71, .getfield 85, 3, 8, 10, 690, 0), (74, .iconst 1, 1, 0, 0, 0, 0), (75, .isub, 1, 0, 0, 0, 0), (76, .ireturn, 1, 0, 0, 0, 0)]
def T_112 : List TE := T_112_0 ++ T_112_1
def T_113_0 : List TE := [(0, .aload_n 0, 1, 0, 0, 0, 0), (1, .iload_n 1, 1, 0, 0, 0, 0), (2, .invokevirtual 143, 3, 0, 101, 878, 1), (5, .ifCond .ne 6, 3, 11, 0, 0, 0), (8, .bipush (-101), 2, 0, 0, 0, 0), (10, .ireturn, 1, 0, 0, 0, 0), (11, .iload_n 2, 1, 0, 0, 0, 0), (12, .i2l, 1, 0, 0, 0, 0), (13, .lconst 0, 1, 0, 0, 0, 0), (14, .lconst 1, 1, 0, 0, 0, 0), (15, .invokestatic 55, 3, 1, 86, 779, 3), (18, .ifCond .eq 16, 3, 34, 0, 0, 0), (21, .aload_n 0, 1, 0, 0, 0, 0), (22, .getfield 19, 3, 8, 12, 692, 0), (25, .iconst 2, 1, 0, 0, 0, 0), (26, .iload_n 1, 1, 0, 0, 0, 0), (27, .imul, 1, 0, 0, 0, 0), (28, .iload_n 2, 1, 0, 0, 0, 0), (29, .iadd, 1, 0, 0, 0, 0), (30, .iaload, 1, 0, 0, 0, 0), (31, .goto 5, 3, 36, 0, 0, 0), (34, .bipush (-102), 2, 0, 0, 0, 0), (36, .ireturn, 1, 0, 0, 0, 0)]
def T_113 : List TE := T_113_0
def T_114_0 : List TE := [(0, .iload_n 1, 1, 0, 0, 0, 0), (1, .iload_n 2, 1, 0, 0, 0, 0), (2, .invokestatic 112, 3, 1, 97, 830, 2), (5, .istore_n 3, 1, 0, 0, 0, 0), (6, .iload_n 3, 1, 0, 0, 0, 0), (7, .iconst (-1), 1, 0, 0, 0, 0), (8, .if_icmp .eq 16, 3, 24, 0, 0, 0), (11, .aload_n 0, 1, 0, 0, 0, 0), (12, .getfield 13, 3, 8, 5, 685, 0), (15, .iload_n 3, 1, 0, 0, 0, 0), (16, .iaload, 1, 0, 0, 0, 0), (17, .ifCond .ne 7, 3, 24, 0, 0, 0), (20, .iload_n 3, 1, 0, 0, 0, 0), (21, .goto 4, 3, 25, 0, 0, 0), (24, .iconst (-1), 1, 0, 0, 0, 0), (25, .ireturn, 1, 0, 0, 0, 0)]
def T_114 : List TE := T_114_0
def T_115_0 : List TE := [(0, .aload_n 0, 1, 0, 0, 0, 0), (1, .iload_n 1, 1, 0, 0, 0, 0), (2, .invokevirtual 143, 3, 0, 101, 878, 1), (5, .ifCond .ne 6, 3, 11, 0, 0, 0), (8, .bipush (-101), 2, 0, 0, 0, 0), (10, .ireturn, 1, 0, 0, 0, 0), (11, .iload_n 2, 1, 0, 0, 0, 0), (12, .invokestatic 134, 3, 1, 102, 850, 1), (15, .ifCond .ne 6, 3, 21, 0, 0, 0), (18, .bipush (-102), 2, 0, 0, 0, 0), (20, .ireturn, 1, 0, 0, 0, 0), (21, .aload_n 0, 1, 0, 0, 0, 0), (22, .aload_n 0, 1, 0, 0, 0, 0), (23, .getfield 19, 3, 8, 12, 692, 0), (26, .iconst 2, 1, 0, 0, 0, 0), (27, .iload_n 1, 1, 0, 0, 0, 0), (28, .imul, 1, 0, 0, 0, 0), (29, .iaload, 1, 0, 0, 0, 0), (30, .iload_n 2, 1, 0, 0, 0, 0), (31, .invokevirtual 146, 3, 0, 114, 886, 2), (34, .istore_n 3, 1, 0, 0, 0, 0), (35, .iload_n 3, 1, 0, 0, 0, 0), (36, .iconst (-1), 1, 0, 0, 0, 0), (37, .if_icmp .ne 6, 3, 43, 0, 0, 0), (40, .bipush (-103), 2, 0, 0, 0, 0), (42, .ireturn, 1, 0, 0, 0, 0), (43, .aload_n 0, 1, 0, 0, 0, 0), (44, .getfield 19, 3, 8, 12, 692, 0), (47, .iconst 2, 1, 0, 0, 0, 0), (48, .iload_n 1, 1, 0, 0, 0, 0), (49, .imul, 1, 0, 0, 0, 0), (50, .iload_n 3, 1, 0, 0, 0, 0), (51, .iastore, 1, 0, 0, 0, 0), (52, .aload_n 0, 1, 0, 0, 0, 0), (53, .getfield 19, 3, 8, 12, 692, 0), (56, .iconst 2, 1, 0, 0, 0, 0), (57, .iload_n 1, 1, 0, 0, 0, 0), (58, .imul, 1, 0, 0, 0, 0), (59, .iconst 1, 1, 0, 0, 0, 0), (60, .iadd, 1, 0, 0, 0, 0)]
def T_115_1 : List TE := [(61, .dup2, 1, 0, 0, 0, 0), (62, .iaload, 1, 0, 0, 0, 0), (63, .aload_n 0, 1, 0, 0, 0, 0), (64, .invokevirtual 149, 3, 0, 103, 890, 0), (67, .iload_n 3, 1, 0, 0, 0, 0), (68, .ishr, 1, 0, 0, 0, 0), (69, .iconst 1, 1, 0, 0, 0, 0), (70, .iand, 1, 0, 0, 0, 0), (71, .iadd, 1, 0, 0, 0, 0), (72, .iastore, 1, 0, 0, 0, 0), (73, .iload_n 3, 1, 0, 0, 0, 0), (74, .ireturn, 1, 0, 0, 0, 0)]
def T_115 : List TE := T_115_0 ++ T_115_1
def T_116_0 : List TE := [(0, .aload_n 0, 1, 0, 0, 0, 0), (1, .invokevirtual 149, 3, 0, 103, 890, 0), (4, .istore_n 2, 1, 0, 0, 0, 0), (5, .iconst 0, 1, 0, 0, 0, 0), (6, .istore_n 3, 1, 0, 0, 0, 0), (7, .iload_n 3, 1, 0, 0, 0, 0), (8, .bipush 12, 2, 0, 0, 0, 0), (10, .if_icmp .ge 33, 3, 43, 0, 0, 0), (13, .aload_n 0, 1, 0, 0, 0, 0), (14, .getfield 22, 3, 8, 13, 693, 0), (17, .iload_n 3, 1, 0, 0, 0, 0), (18, .iload_n 3, 1, 0, 0, 0, 0), (19, .iload_n 1, 1, 0, 0, 0, 0), (20, .if_icmp .ne 7, 3, 27, 0, 0, 0), (23, .iconst 0, 1, 0, 0, 0, 0), (24, .goto 5, 3, 29, 0, 0, 0), (27, .ldc 152, 2, 0, 0, 903, 100000), (29, .iastore, 1, 0, 0, 0, 0), (30, .aload_n 0, 1, 0, 0, 0, 0), (31, .getfield 25, 3, 8, 14, 694, 0), (34, .iload_n 3, 1, 0, 0, 0, 0), (35, .iconst (-1), 1, 0, 0, 0, 0), (36, .iastore, 1, 0, 0, 0, 0), (37, .iinc 3 1, 3, 0, 0, 0, 0), (40, .goto (-33), 3, 7, 0, 0, 0), (43, .iconst 1, 1, 0, 0, 0, 0), (44, .istore_n 3, 1, 0, 0, 0, 0), (45, .iload_n 3, 1, 0, 0, 0, 0), (46, .ifCond .eq 214, 3, 260, 0, 0, 0), (49, .iconst 0, 1, 0, 0, 0, 0), (50, .istore_n 3, 1, 0, 0, 0, 0), (51, .iconst 0, 1, 0, 0, 0, 0), (52, .istore 4, 2, 0, 0, 0, 0), (54, .iload 4, 2, 0, 0, 0, 0), (56, .bipush 48, 2, 0, 0, 0, 0), (58, .if_icmp .ge 199, 3, 257, 0, 0, 0), (61, .iload 4, 2, 0, 0, 0, 0), (63, .iconst 4, 1, 0, 0, 0, 0), (64, .idiv, 1, 0, 0, 0, 0), (65, .istore 5, 2, 0, 0, 0, 0)]
def T_116_1 : List TE := [(67, .aload_n 0, 1, 0, 0, 0, 0), (68, .getfield 22, 3, 8, 13, 693, 0), (71, .iload 5, 2, 0, 0, 0, 0), (73, .iaload, 1, 0, 0, 0, 0), (74, .ldc 152, 2, 0, 0, 903, 100000), (76, .if_icmp .ge 16, 3, 92, 0, 0, 0), (79, .aload_n 0, 1, 0, 0, 0, 0), (80, .iload 5, 2, 0, 0, 0, 0), (82, .iload 4, 2, 0, 0, 0, 0), (84, .iconst 4, 1, 0, 0, 0, 0), (85, .irem, 1, 0, 0, 0, 0), (86, .invokevirtual 146, 3, 0, 114, 886, 2), (89, .goto 4, 3, 93, 0, 0, 0), (92, .iconst (-1), 1, 0, 0, 0, 0), (93, .istore 6, 2, 0, 0, 0, 0), (95, .iload 6, 2, 0, 0, 0, 0), (97, .iconst (-1), 1, 0, 0, 0, 0), (98, .if_icmp .eq 153, 3, 251, 0, 0, 0), (101, .aload_n 0, 1, 0, 0, 0, 0), (102, .getfield 22, 3, 8, 13, 693, 0), (105, .iload 5, 2, 0, 0, 0, 0), (107, .iaload, 1, 0, 0, 0, 0), (108, .iconst 1, 1, 0, 0, 0, 0), (109, .iadd, 1, 0, 0, 0, 0), (110, .sipush 1000, 3, 0, 0, 0, 0), (113, .iload_n 2, 1, 0, 0, 0, 0), (114, .iload 6, 2, 0, 0, 0, 0), (116, .ishr, 1, 0, 0, 0, 0), (117, .iconst 1, 1, 0, 0, 0, 0), (118, .iand, 1, 0, 0, 0, 0), (119, .imul, 1, 0, 0, 0, 0), (120, .iadd, 1, 0, 0, 0, 0), (121, .istore 7, 2, 0, 0, 0, 0), (123, .iload 5, 2, 0, 0, 0, 0), (125, .iload_n 1, 1, 0, 0, 0, 0), (126, .if_icmp .ne 10, 3, 136, 0, 0, 0), (129, .iload 4, 2, 0, 0, 0, 0), (131, .iconst 4, 1, 0, 0, 0, 0), (132, .irem, 1, 0, 0, 0, 0), (133, .goto 10, 3, 143, 0, 0, 0)]
def T_116_2 : List TE := [(136, .aload_n 0, 1, 0, 0, 0, 0), (137, .getfield 25, 3, 8, 14, 694, 0), (140, .iload 5, 2, 0, 0, 0, 0), (142, .iaload, 1, 0, 0, 0, 0), (143, .istore 8, 2, 0, 0, 0, 0), (145, .iload 7, 2, 0, 0, 0, 0), (147, .aload_n 0, 1, 0, 0, 0, 0), (148, .getfield 22, 3, 8, 13, 693, 0), (151, .iload 6, 2, 0, 0, 0, 0), (153, .iaload, 1, 0, 0, 0, 0), (154, .if_icmp .lt 27, 3, 181, 0, 0, 0), (157, .iload 7, 2, 0, 0, 0, 0), (159, .aload_n 0, 1, 0, 0, 0, 0), (160, .getfield 22, 3, 8, 13, 693, 0), (163, .iload 6, 2, 0, 0, 0, 0), (165, .iaload, 1, 0, 0, 0, 0), (166, .if_icmp .ne 19, 3, 185, 0, 0, 0), (169, .iload 8, 2, 0, 0, 0, 0), (171, .aload_n 0, 1, 0, 0, 0, 0), (172, .getfield 25, 3, 8, 14, 694, 0), (175, .iload 6, 2, 0, 0, 0, 0), (177, .iaload, 1, 0, 0, 0, 0), (178, .if_icmp .ge 7, 3, 185, 0, 0, 0), (181, .iconst 1, 1, 0, 0, 0, 0), (182, .goto 4, 3, 186, 0, 0, 0), (185, .iconst 0, 1, 0, 0, 0, 0), (186, .istore 9, 2, 0, 0, 0, 0), (188, .aload_n 0, 1, 0, 0, 0, 0), (189, .getfield 22, 3, 8, 13, 693, 0), (192, .iload 6, 2, 0, 0, 0, 0), (194, .iload 9, 2, 0, 0, 0, 0), (196, .ifCond .eq 8, 3, 204, 0, 0, 0), (199, .iload 7, 2, 0, 0, 0, 0), (201, .goto 10, 3, 211, 0, 0, 0), (204, .aload_n 0, 1, 0, 0, 0, 0), (205, .getfield 22, 3, 8, 13, 693, 0), (208, .iload 6, 2, 0, 0, 0, 0), (210, .iaload, 1, 0, 0, 0, 0), (211, .iastore, 1, 0, 0, 0, 0), (212, .aload_n 0, 1, 0, 0, 0, 0)]
def T_116_3 : List TE := [(213, .getfield 25, 3, 8, 14, 694, 0), (216, .iload 6, 2, 0, 0, 0, 0), (218, .iload 9, 2, 0, 0, 0, 0), (220, .ifCond .eq 8, 3, 228, 0, 0, 0), (223, .iload 8, 2, 0, 0, 0, 0), (225, .goto 10, 3, 235, 0, 0, 0), (228, .aload_n 0, 1, 0, 0, 0, 0), (229, .getfield 25, 3, 8, 14, 694, 0), (232, .iload 6, 2, 0, 0, 0, 0), (234, .iaload, 1, 0, 0, 0, 0), (235, .iastore, 1, 0, 0, 0, 0), (236, .iload_n 3, 1, 0, 0, 0, 0), (237, .ifCond .ne 8, 3, 245, 0, 0, 0), (240, .iload 9, 2, 0, 0, 0, 0), (242, .ifCond .eq 7, 3, 249, 0, 0, 0), (245, .iconst 1, 1, 0, 0, 0, 0), (246, .goto 4, 3, 250, 0, 0, 0), (249, .iconst 0, 1, 0, 0, 0, 0), (250, .istore_n 3, 1, 0, 0, 0, 0), (251, .iinc 4 1, 3, 0, 0, 0, 0), (254, .goto (-200), 3, 54, 0, 0, 0), (257, .goto (-212), 3, 45, 0, 0, 0), (260, .return_, 1, 0, 0, 0, 0)]
def T_116 : List TE := T_116_0 ++ T_116_1 ++ T_116_2 ++ T_116_3
def T_117_0 : List TE := [(0, .aload_n 0, 1, 0, 0, 0, 0), (1, .iload_n 1, 1, 0, 0, 0, 0), (2, .invokevirtual 143, 3, 0, 101, 878, 1), (5, .ifCond .eq 11, 3, 16, 0, 0, 0), (8, .aload_n 0, 1, 0, 0, 0, 0), (9, .iload_n 2, 1, 0, 0, 0, 0), (10, .invokevirtual 125, 3, 0, 96, 813, 1), (13, .ifCond .ne 6, 3, 19, 0, 0, 0), (16, .bipush (-101), 2, 0, 0, 0, 0), (18, .ireturn, 1, 0, 0, 0, 0), (19, .iload_n 3, 1, 0, 0, 0, 0), (20, .i2l, 1, 0, 0, 0, 0), (21, .lconst 0, 1, 0, 0, 0, 0), (22, .ldc2_w 153, 3, 0, 0, 898, 2), (25, .invokestatic 55, 3, 1, 86, 779, 3), (28, .ifCond .ne 6, 3, 34, 0, 0, 0), (31, .bipush (-102), 2, 0, 0, 0, 0), (33, .ireturn, 1, 0, 0, 0, 0), (34, .aload_n 0, 1, 0, 0, 0, 0), (35, .getfield 13, 3, 8, 5, 685, 0), (38, .iload_n 2, 1, 0, 0, 0, 0), (39, .iaload, 1, 0, 0, 0, 0), (40, .ifCond .eq 6, 3, 46, 0, 0, 0), (43, .bipush (-103), 2, 0, 0, 0, 0), (45, .ireturn, 1, 0, 0, 0, 0), (46, .aload_n 0, 1, 0, 0, 0, 0), (47, .aload_n 0, 1, 0, 0, 0, 0), (48, .getfield 19, 3, 8, 12, 692, 0), (51, .iconst 2, 1, 0, 0, 0, 0), (52, .iload_n 1, 1, 0, 0, 0, 0), (53, .imul, 1, 0, 0, 0, 0), (54, .iaload, 1, 0, 0, 0, 0), (55, .invokevirtual 155, 3, 0, 116, 899, 1), (58, .aload_n 0, 1, 0, 0, 0, 0), (59, .getfield 22, 3, 8, 13, 693, 0), (62, .iload_n 2, 1, 0, 0, 0, 0), (63, .iaload, 1, 0, 0, 0, 0), (64, .ldc 152, 2, 0, 0, 903, 100000), (66, .if_icmp .ne 7, 3, 73, 0, 0, 0), (69, .iconst (-1), 1, 0, 0, 0, 0)]
def T_117_1 : List TE := [(70, .goto 44, 3, 114, 0, 0, 0), (73, .iload_n 3, 1, 0, 0, 0, 0), (74, .ifCond .ne 16, 3, 90, 0, 0, 0), (77, .aload_n 0, 1, 0, 0, 0, 0), (78, .getfield 22, 3, 8, 13, 693, 0), (81, .iload_n 2, 1, 0, 0, 0, 0), (82, .iaload, 1, 0, 0, 0, 0), (83, .sipush 1000, 3, 0, 0, 0, 0), (86, .idiv, 1, 0, 0, 0, 0), (87, .goto 27, 3, 114, 0, 0, 0), (90, .iload_n 3, 1, 0, 0, 0, 0), (91, .iconst 1, 1, 0, 0, 0, 0), (92, .if_icmp .ne 16, 3, 108, 0, 0, 0), (95, .aload_n 0, 1, 0, 0, 0, 0), (96, .getfield 22, 3, 8, 13, 693, 0), (99, .iload_n 2, 1, 0, 0, 0, 0), (100, .iaload, 1, 0, 0, 0, 0), (101, .sipush 1000, 3, 0, 0, 0, 0), (104, .irem, 1, 0, 0, 0, 0), (105, .goto 9, 3, 114, 0, 0, 0), (108, .aload_n 0, 1, 0, 0, 0, 0), (109, .getfield 25, 3, 8, 14, 694, 0), (112, .iload_n 2, 1, 0, 0, 0, 0), (113, .iaload, 1, 0, 0, 0, 0), (114, .ireturn, 1, 0, 0, 0, 0)]
def T_117 : List TE := T_117_0 ++ T_117_1
def T_118_0 : List TE := [(0, .iconst 0, 1, 0, 0, 0, 0), (1, .istore_n 1, 1, 0, 0, 0, 0), (2, .iconst 0, 1, 0, 0, 0, 0), (3, .istore_n 2, 1, 0, 0, 0, 0), (4, .iload_n 2, 1, 0, 0, 0, 0), (5, .bipush 12, 2, 0, 0, 0, 0), (7, .if_icmp .ge 17, 3, 24, 0, 0, 0), (10, .iload_n 1, 1, 0, 0, 0, 0), (11, .iload_n 0, 1, 0, 0, 0, 0), (12, .iload_n 2, 1, 0, 0, 0, 0), (13, .ishr, 1, 0, 0, 0, 0), (14, .iconst 1, 1, 0, 0, 0, 0), (15, .iand, 1, 0, 0, 0, 0), (16, .iadd, 1, 0, 0, 0, 0), (17, .istore_n 1, 1, 0, 0, 0, 0), (18, .iinc 2 1, 3, 0, 0, 0, 0), (21, .goto (-17), 3, 4, 0, 0, 0), (24, .iload_n 1, 1, 0, 0, 0, 0), (25, .ireturn, 1, 0, 0, 0, 0)]
def T_118 : List TE := T_118_0
def T_119_0 : List TE := [(0, .aload_n 0, 1, 0, 0, 0, 0), (1, .invokevirtual 149, 3, 0, 103, 890, 0), (4, .istore_n 2, 1, 0, 0, 0, 0), (5, .iconst (-1), 1, 0, 0, 0, 0), (6, .istore_n 3, 1, 0, 0, 0, 0), (7, .iconst 0, 1, 0, 0, 0, 0), (8, .istore 4, 2, 0, 0, 0, 0), (10, .iconst 0, 1, 0, 0, 0, 0), (11, .istore 5, 2, 0, 0, 0, 0), (13, .iload 5, 2, 0, 0, 0, 0), (15, .bipush 48, 2, 0, 0, 0, 0), (17, .if_icmp .ge 89, 3, 106, 0, 0, 0), (20, .aload_n 0, 1, 0, 0, 0, 0), (21, .getfield 13, 3, 8, 5, 685, 0), (24, .iload 5, 2, 0, 0, 0, 0), (26, .iconst 4, 1, 0, 0, 0, 0), (27, .idiv, 1, 0, 0, 0, 0), (28, .iaload, 1, 0, 0, 0, 0), (29, .ifCond .ne 71, 3, 100, 0, 0, 0), (32, .aload_n 0, 1, 0, 0, 0, 0), (33, .iload 5, 2, 0, 0, 0, 0), (35, .iconst 4, 1, 0, 0, 0, 0), (36, .idiv, 1, 0, 0, 0, 0), (37, .iload 5, 2, 0, 0, 0, 0), (39, .iconst 4, 1, 0, 0, 0, 0), (40, .irem, 1, 0, 0, 0, 0), (41, .invokevirtual 121, 3, 0, 99, 826, 2), (44, .iload_n 2, 1, 0, 0, 0, 0), (45, .aload_n 0, 1, 0, 0, 0, 0), (46, .getfield 103, 3, 8, 6, 686, 0), (49, .ior, 1, 0, 0, 0, 0), (50, .invokestatic 159, 3, 1, 118, 912, 1), (53, .istore 6, 2, 0, 0, 0, 0), (55, .iload_n 3, 1, 0, 0, 0, 0), (56, .iconst (-1), 1, 0, 0, 0, 0), (57, .if_icmp .eq 10, 3, 67, 0, 0, 0), (60, .iload 6, 2, 0, 0, 0, 0), (62, .iload 4, 2, 0, 0, 0, 0), (64, .if_icmp .le 7, 3, 71, 0, 0, 0), (67, .iconst 1, 1, 0, 0, 0, 0)]
def T_119_1 : List TE := [(68, .goto 4, 3, 72, 0, 0, 0), (71, .iconst 0, 1, 0, 0, 0, 0), (72, .istore 7, 2, 0, 0, 0, 0), (74, .iload 7, 2, 0, 0, 0, 0), (76, .ifCond .eq 8, 3, 84, 0, 0, 0), (79, .iload 5, 2, 0, 0, 0, 0), (81, .goto 4, 3, 85, 0, 0, 0), (84, .iload_n 3, 1, 0, 0, 0, 0), (85, .istore_n 3, 1, 0, 0, 0, 0), (86, .iload 7, 2, 0, 0, 0, 0), (88, .ifCond .eq 8, 3, 96, 0, 0, 0), (91, .iload 6, 2, 0, 0, 0, 0), (93, .goto 5, 3, 98, 0, 0, 0), (96, .iload 4, 2, 0, 0, 0, 0), (98, .istore 4, 2, 0, 0, 0, 0), (100, .iinc 5 1, 3, 0, 0, 0, 0), (103, .goto (-90), 3, 13, 0, 0, 0), (106, .iload_n 1, 1, 0, 0, 0, 0), (107, .ifCond .ne 7, 3, 114, 0, 0, 0), (110, .iload_n 3, 1, 0, 0, 0, 0), (111, .goto 5, 3, 116, 0, 0, 0), (114, .iload 4, 2, 0, 0, 0, 0), (116, .ireturn, 1, 0, 0, 0, 0)]
def T_119 : List TE := T_119_0 ++ T_119_1
def T_120_0 : List TE := [(0, .iload_n 1, 1, 0, 0, 0, 0), (1, .i2l, 1, 0, 0, 0, 0), (2, .lconst 0, 1, 0, 0, 0, 0), (3, .lconst 1, 1, 0, 0, 0, 0), (4, .invokestatic 55, 3, 1, 86, 779, 3), (7, .ifCond .ne 6, 3, 13, 0, 0, 0), (10, .bipush (-102), 2, 0, 0, 0, 0), (12, .ireturn, 1, 0, 0, 0, 0), (13, .aload_n 0, 1, 0, 0, 0, 0), (14, .invokevirtual 99, 3, 0, 95, 818, 0), (17, .ifCond .eq 8, 3, 25, 0, 0, 0), (20, .bipush (-103), 2, 0, 0, 0, 0), (22, .goto 8, 3, 30, 0, 0, 0), (25, .aload_n 0, 1, 0, 0, 0, 0), (26, .iload_n 1, 1, 0, 0, 0, 0), (27, .invokevirtual 162, 3, 0, 119, 908, 1), (30, .ireturn, 1, 0, 0, 0, 0)]
def T_120 : List TE := T_120_0
def T_121_0 : List TE := [(0, .iload_n 0, 1, 0, 0, 0, 0), (1, .iconst 2, 1, 0, 0, 0, 0), (2, .if_icmp .eq 8, 3, 10, 0, 0, 0), (5, .iload_n 0, 1, 0, 0, 0, 0), (6, .iconst 3, 1, 0, 0, 0, 0), (7, .if_icmp .ne 7, 3, 14, 0, 0, 0), (10, .iconst 1, 1, 0, 0, 0, 0), (11, .goto 4, 3, 15, 0, 0, 0), (14, .iconst 0, 1, 0, 0, 0, 0), (15, .ireturn, 1, 0, 0, 0, 0)]
def T_121 : List TE := T_121_0
def T_122_0 : List TE := [(0, .iconst 0, 1, 0, 0, 0, 0), (1, .istore_n 2, 1, 0, 0, 0, 0), (2, .iload_n 2, 1, 0, 0, 0, 0), (3, .bipush 12, 2, 0, 0, 0, 0), (5, .if_icmp .ge 40, 3, 45, 0, 0, 0), (8, .aload_n 0, 1, 0, 0, 0, 0), (9, .getfield 13, 3, 8, 5, 685, 0), (12, .iload_n 2, 1, 0, 0, 0, 0), (13, .iload_n 1, 1, 0, 0, 0, 0), (14, .iload_n 2, 1, 0, 0, 0, 0), (15, .ishr, 1, 0, 0, 0, 0), (16, .iconst 1, 1, 0, 0, 0, 0), (17, .iand, 1, 0, 0, 0, 0), (18, .ifCond .ne 12, 3, 30, 0, 0, 0), (21, .aload_n 0, 1, 0, 0, 0, 0), (22, .getfield 13, 3, 8, 5, 685, 0), (25, .iload_n 2, 1, 0, 0, 0, 0), (26, .iaload, 1, 0, 0, 0, 0), (27, .goto 11, 3, 38, 0, 0, 0), (30, .iconst 5, 1, 0, 0, 0, 0), (31, .aload_n 0, 1, 0, 0, 0, 0), (32, .getfield 13, 3, 8, 5, 685, 0), (35, .iload_n 2, 1, 0, 0, 0, 0), (36, .iaload, 1, 0, 0, 0, 0), (37, .isub, 1, 0, 0, 0, 0), (38, .iastore, 1, 0, 0, 0, 0), (39, .iinc 2 1, 3, 0, 0, 0, 0), (42, .goto (-40), 3, 2, 0, 0, 0), (45, .return_, 1, 0, 0, 0, 0)]
def T_122 : List TE := T_122_0
def T_123_0 : List TE := [(0, .iconst 0, 1, 0, 0, 0, 0), (1, .istore_n 2, 1, 0, 0, 0, 0), (2, .iconst 0, 1, 0, 0, 0, 0), (3, .istore_n 3, 1, 0, 0, 0, 0), (4, .iload_n 3, 1, 0, 0, 0, 0), (5, .bipush 12, 2, 0, 0, 0, 0), (7, .if_icmp .ge 31, 3, 38, 0, 0, 0), (10, .iload_n 2, 1, 0, 0, 0, 0), (11, .aload_n 0, 1, 0, 0, 0, 0), (12, .getfield 13, 3, 8, 5, 685, 0), (15, .iload_n 3, 1, 0, 0, 0, 0), (16, .iaload, 1, 0, 0, 0, 0), (17, .invokestatic 165, 3, 1, 121, 923, 1), (20, .ifCond .eq 9, 3, 29, 0, 0, 0), (23, .iconst 1, 1, 0, 0, 0, 0), (24, .iload_n 3, 1, 0, 0, 0, 0), (25, .ishl, 1, 0, 0, 0, 0), (26, .goto 4, 3, 30, 0, 0, 0), (29, .iconst 0, 1, 0, 0, 0, 0), (30, .ior, 1, 0, 0, 0, 0), (31, .istore_n 2, 1, 0, 0, 0, 0), (32, .iinc 3 1, 3, 0, 0, 0, 0), (35, .goto (-31), 3, 4, 0, 0, 0), (38, .iconst (-1), 1, 0, 0, 0, 0), (39, .istore_n 3, 1, 0, 0, 0, 0), (40, .iconst 0, 1, 0, 0, 0, 0), (41, .istore 4, 2, 0, 0, 0, 0), (43, .iload 4, 2, 0, 0, 0, 0), (45, .sipush 4096, 3, 0, 0, 0, 0), (48, .if_icmp .ge 66, 3, 114, 0, 0, 0), (51, .iload 4, 2, 0, 0, 0, 0), (53, .iload_n 2, 1, 0, 0, 0, 0), (54, .iconst (-1), 1, 0, 0, 0, 0), (55, .ixor, 1, 0, 0, 0, 0), (56, .iand, 1, 0, 0, 0, 0), (57, .ifCond .ne 51, 3, 108, 0, 0, 0), (60, .iload_n 3, 1, 0, 0, 0, 0), (61, .iconst (-1), 1, 0, 0, 0, 0), (62, .if_icmp .eq 15, 3, 77, 0, 0, 0), (65, .iload 4, 2, 0, 0, 0, 0)]
def T_123_1 : List TE := [(67, .invokestatic 159, 3, 1, 118, 912, 1), (70, .iload_n 3, 1, 0, 0, 0, 0), (71, .invokestatic 159, 3, 1, 118, 912, 1), (74, .if_icmp .ge 34, 3, 108, 0, 0, 0), (77, .aload_n 0, 1, 0, 0, 0, 0), (78, .iload 4, 2, 0, 0, 0, 0), (80, .invokevirtual 168, 3, 0, 122, 926, 1), (83, .aload_n 0, 1, 0, 0, 0, 0), (84, .invokevirtual 149, 3, 0, 103, 890, 0), (87, .iload_n 1, 1, 0, 0, 0, 0), (88, .ishr, 1, 0, 0, 0, 0), (89, .iconst 1, 1, 0, 0, 0, 0), (90, .iand, 1, 0, 0, 0, 0), (91, .iconst 1, 1, 0, 0, 0, 0), (92, .if_icmp .ne 8, 3, 100, 0, 0, 0), (95, .iload 4, 2, 0, 0, 0, 0), (97, .goto 4, 3, 101, 0, 0, 0), (100, .iload_n 3, 1, 0, 0, 0, 0), (101, .istore_n 3, 1, 0, 0, 0, 0), (102, .aload_n 0, 1, 0, 0, 0, 0), (103, .iload 4, 2, 0, 0, 0, 0), (105, .invokevirtual 168, 3, 0, 122, 926, 1), (108, .iinc 4 1, 3, 0, 0, 0, 0), (111, .goto (-68), 3, 43, 0, 0, 0), (114, .iload_n 3, 1, 0, 0, 0, 0), (115, .ireturn, 1, 0, 0, 0, 0)]
def T_123 : List TE := T_123_0 ++ T_123_1
def T_124_0 : List TE := [(0, .aload_n 0, 1, 0, 0, 0, 0), (1, .iload_n 1, 1, 0, 0, 0, 0), (2, .invokevirtual 125, 3, 0, 96, 813, 1), (5, .ifCond .ne 6, 3, 11, 0, 0, 0), (8, .bipush (-101), 2, 0, 0, 0, 0), (10, .ireturn, 1, 0, 0, 0, 0), (11, .iload_n 2, 1, 0, 0, 0, 0), (12, .i2l, 1, 0, 0, 0, 0), (13, .lconst 0, 1, 0, 0, 0, 0), (14, .lconst 1, 1, 0, 0, 0, 0), (15, .invokestatic 55, 3, 1, 86, 779, 3), (18, .ifCond .ne 6, 3, 24, 0, 0, 0), (21, .bipush (-102), 2, 0, 0, 0, 0), (23, .ireturn, 1, 0, 0, 0, 0), (24, .aload_n 0, 1, 0, 0, 0, 0), (25, .getfield 13, 3, 8, 5, 685, 0), (28, .iload_n 1, 1, 0, 0, 0, 0), (29, .iaload, 1, 0, 0, 0, 0), (30, .ifCond .ne 12, 3, 42, 0, 0, 0), (33, .aload_n 0, 1, 0, 0, 0, 0), (34, .getfield 171, 3, 8, 15, 695, 0), (37, .bipush 20, 2, 0, 0, 0, 0), (39, .if_icmp .ne 6, 3, 45, 0, 0, 0), (42, .bipush (-103), 2, 0, 0, 0, 0), (44, .ireturn, 1, 0, 0, 0, 0), (45, .aload_n 0, 1, 0, 0, 0, 0), (46, .dup, 1, 0, 0, 0, 0), (47, .getfield 171, 3, 8, 15, 695, 0), (50, .iconst 1, 1, 0, 0, 0, 0), (51, .iadd, 1, 0, 0, 0, 0), (52, .putfield 171, 3, 8, 15, 695, 0), (55, .aload_n 0, 1, 0, 0, 0, 0), (56, .iload_n 1, 1, 0, 0, 0, 0), (57, .invokevirtual 174, 3, 0, 123, 919, 1), (60, .istore_n 3, 1, 0, 0, 0, 0), (61, .iload_n 3, 1, 0, 0, 0, 0), (62, .iconst (-1), 1, 0, 0, 0, 0), (63, .if_icmp .eq 8, 3, 71, 0, 0, 0), (66, .iload_n 2, 1, 0, 0, 0, 0), (67, .iconst 1, 1, 0, 0, 0, 0)]
def T_124_1 : List TE := [(68, .if_icmp .ne 7, 3, 75, 0, 0, 0), (71, .iload_n 3, 1, 0, 0, 0, 0), (72, .goto 7, 3, 79, 0, 0, 0), (75, .iload_n 3, 1, 0, 0, 0, 0), (76, .invokestatic 159, 3, 1, 118, 912, 1), (79, .ireturn, 1, 0, 0, 0, 0)]
def T_124 : List TE := T_124_0 ++ T_124_1
def T_125_0 : List TE := [(0, .iload_n 1, 1, 0, 0, 0, 0), (1, .i2l, 1, 0, 0, 0, 0), (2, .ldc2_w 177, 3, 0, 0, 934, (-1)), (5, .lconst 1, 1, 0, 0, 0, 0), (6, .invokestatic 55, 3, 1, 86, 779, 3), (9, .ifCond .ne 6, 3, 15, 0, 0, 0), (12, .bipush (-102), 2, 0, 0, 0, 0), (14, .ireturn, 1, 0, 0, 0, 0), (15, .aload_n 0, 1, 0, 0, 0, 0), (16, .getfield 88, 3, 8, 16, 696, 0), (19, .bipush 8, 2, 0, 0, 0, 0), (21, .if_icmp .ne 6, 3, 27, 0, 0, 0), (24, .bipush (-104), 2, 0, 0, 0, 0), (26, .ireturn, 1, 0, 0, 0, 0), (27, .aload_n 0, 1, 0, 0, 0, 0), (28, .getfield 28, 3, 8, 17, 697, 0), (31, .aload_n 0, 1, 0, 0, 0, 0), (32, .getfield 88, 3, 8, 16, 696, 0), (35, .iload_n 1, 1, 0, 0, 0, 0), (36, .iastore, 1, 0, 0, 0, 0), (37, .aload_n 0, 1, 0, 0, 0, 0), (38, .dup, 1, 0, 0, 0, 0), (39, .getfield 88, 3, 8, 16, 696, 0), (42, .iconst 1, 1, 0, 0, 0, 0), (43, .iadd, 1, 0, 0, 0, 0), (44, .putfield 88, 3, 8, 16, 696, 0), (47, .aload_n 0, 1, 0, 0, 0, 0), (48, .getfield 88, 3, 8, 16, 696, 0), (51, .ireturn, 1, 0, 0, 0, 0)]
def T_125 : List TE := T_125_0
def T_126_0 : List TE := [(0, .aload_n 0, 1, 0, 0, 0, 0), (1, .getfield 88, 3, 8, 16, 696, 0), (4, .istore_n 1, 1, 0, 0, 0, 0), (5, .aload_n 0, 1, 0, 0, 0, 0), (6, .iconst 0, 1, 0, 0, 0, 0), (7, .putfield 88, 3, 8, 16, 696, 0), (10, .iload_n 1, 1, 0, 0, 0, 0), (11, .ireturn, 1, 0, 0, 0, 0)]
def T_126 : List TE := T_126_0
def T_127_0 : List TE := [(0, .aload_n 0, 1, 0, 0, 0, 0), (1, .invokevirtual 149, 3, 0, 103, 890, 0), (4, .istore_n 3, 1, 0, 0, 0, 0), (5, .iconst 0, 1, 0, 0, 0, 0), (6, .istore 4, 2, 0, 0, 0, 0), (8, .iload 4, 2, 0, 0, 0, 0), (10, .bipush 12, 2, 0, 0, 0, 0), (12, .if_icmp .ge 34, 3, 46, 0, 0, 0), (15, .aload_n 0, 1, 0, 0, 0, 0), (16, .getfield 31, 3, 8, 18, 698, 0), (19, .iload 4, 2, 0, 0, 0, 0), (21, .iload 4, 2, 0, 0, 0, 0), (23, .aload_n 0, 1, 0, 0, 0, 0), (24, .getfield 19, 3, 8, 12, 692, 0), (27, .iconst 2, 1, 0, 0, 0, 0), (28, .iload_n 1, 1, 0, 0, 0, 0), (29, .imul, 1, 0, 0, 0, 0), (30, .iaload, 1, 0, 0, 0, 0), (31, .if_icmp .ne 7, 3, 38, 0, 0, 0), (34, .iconst 1, 1, 0, 0, 0, 0), (35, .goto 4, 3, 39, 0, 0, 0), (38, .iconst 0, 1, 0, 0, 0, 0), (39, .iastore, 1, 0, 0, 0, 0), (40, .iinc 4 1, 3, 0, 0, 0, 0), (43, .goto (-35), 3, 8, 0, 0, 0), (46, .iconst 0, 1, 0, 0, 0, 0), (47, .istore 4, 2, 0, 0, 0, 0), (49, .iload 4, 2, 0, 0, 0, 0), (51, .aload_n 0, 1, 0, 0, 0, 0), (52, .getfield 88, 3, 8, 16, 696, 0), (55, .if_icmp .ge 138, 3, 193, 0, 0, 0), (58, .iconst 0, 1, 0, 0, 0, 0), (59, .istore 5, 2, 0, 0, 0, 0), (61, .iload 5, 2, 0, 0, 0, 0), (63, .bipush 12, 2, 0, 0, 0, 0), (65, .if_icmp .ge 17, 3, 82, 0, 0, 0), (68, .aload_n 0, 1, 0, 0, 0, 0), (69, .getfield 34, 3, 8, 19, 699, 0), (72, .iload 5, 2, 0, 0, 0, 0), (74, .iconst 0, 1, 0, 0, 0, 0)]
def T_127_1 : List TE := [(75, .iastore, 1, 0, 0, 0, 0), (76, .iinc 5 1, 3, 0, 0, 0, 0), (79, .goto (-18), 3, 61, 0, 0, 0), (82, .iconst 0, 1, 0, 0, 0, 0), (83, .istore 5, 2, 0, 0, 0, 0), (85, .iload 5, 2, 0, 0, 0, 0), (87, .bipush 48, 2, 0, 0, 0, 0), (89, .if_icmp .ge 87, 3, 176, 0, 0, 0), (92, .aload_n 0, 1, 0, 0, 0, 0), (93, .iload 5, 2, 0, 0, 0, 0), (95, .iconst 4, 1, 0, 0, 0, 0), (96, .idiv, 1, 0, 0, 0, 0), (97, .iload 5, 2, 0, 0, 0, 0), (99, .iconst 4, 1, 0, 0, 0, 0), (100, .irem, 1, 0, 0, 0, 0), (101, .invokevirtual 146, 3, 0, 114, 886, 2), (104, .istore 6, 2, 0, 0, 0, 0), (106, .iload 6, 2, 0, 0, 0, 0), (108, .iconst (-1), 1, 0, 0, 0, 0), (109, .if_icmp .eq 34, 3, 143, 0, 0, 0), (112, .aload_n 0, 1, 0, 0, 0, 0), (113, .getfield 28, 3, 8, 17, 697, 0), (116, .iload 4, 2, 0, 0, 0, 0), (118, .iaload, 1, 0, 0, 0, 0), (119, .iconst (-1), 1, 0, 0, 0, 0), (120, .if_icmp .eq 19, 3, 139, 0, 0, 0), (123, .aload_n 0, 1, 0, 0, 0, 0), (124, .getfield 28, 3, 8, 17, 697, 0), (127, .iload 4, 2, 0, 0, 0, 0), (129, .iaload, 1, 0, 0, 0, 0), (130, .iload_n 3, 1, 0, 0, 0, 0), (131, .iload 6, 2, 0, 0, 0, 0), (133, .ishr, 1, 0, 0, 0, 0), (134, .iconst 1, 1, 0, 0, 0, 0), (135, .iand, 1, 0, 0, 0, 0), (136, .if_icmp .ne 7, 3, 143, 0, 0, 0), (139, .iconst 1, 1, 0, 0, 0, 0), (140, .goto 4, 3, 144, 0, 0, 0), (143, .iconst 0, 1, 0, 0, 0, 0), (144, .istore 7, 2, 0, 0, 0, 0)]
def T_127_2 : List TE := [(146, .iload 7, 2, 0, 0, 0, 0), (148, .ifCond .eq 22, 3, 170, 0, 0, 0), (151, .aload_n 0, 1, 0, 0, 0, 0), (152, .getfield 34, 3, 8, 19, 699, 0), (155, .iload 6, 2, 0, 0, 0, 0), (157, .dup2, 1, 0, 0, 0, 0), (158, .iaload, 1, 0, 0, 0, 0), (159, .aload_n 0, 1, 0, 0, 0, 0), (160, .getfield 31, 3, 8, 18, 698, 0), (163, .iload 5, 2, 0, 0, 0, 0), (165, .iconst 4, 1, 0, 0, 0, 0), (166, .idiv, 1, 0, 0, 0, 0), (167, .iaload, 1, 0, 0, 0, 0), (168, .iadd, 1, 0, 0, 0, 0), (169, .iastore, 1, 0, 0, 0, 0), (170, .iinc 5 1, 3, 0, 0, 0, 0), (173, .goto (-88), 3, 85, 0, 0, 0), (176, .aload_n 0, 1, 0, 0, 0, 0), (177, .getfield 34, 3, 8, 19, 699, 0), (180, .aload_n 0, 1, 0, 0, 0, 0), (181, .getfield 31, 3, 8, 18, 698, 0), (184, .invokestatic 179, 3, 1, 131, 947, 2), (187, .iinc 4 1, 3, 0, 0, 0, 0), (190, .goto (-141), 3, 49, 0, 0, 0), (193, .iconst 0, 1, 0, 0, 0, 0), (194, .istore 4, 2, 0, 0, 0, 0), (196, .iconst 0, 1, 0, 0, 0, 0), (197, .istore 5, 2, 0, 0, 0, 0), (199, .iconst 0, 1, 0, 0, 0, 0), (200, .istore 6, 2, 0, 0, 0, 0), (202, .iload 6, 2, 0, 0, 0, 0), (204, .bipush 12, 2, 0, 0, 0, 0), (206, .if_icmp .ge 44, 3, 250, 0, 0, 0), (209, .iload 4, 2, 0, 0, 0, 0), (211, .aload_n 0, 1, 0, 0, 0, 0), (212, .getfield 31, 3, 8, 18, 698, 0), (215, .iload 6, 2, 0, 0, 0, 0), (217, .iaload, 1, 0, 0, 0, 0), (218, .iadd, 1, 0, 0, 0, 0), (219, .istore 4, 2, 0, 0, 0, 0)]
def T_127_3 : List TE := [(221, .iload 5, 2, 0, 0, 0, 0), (223, .aload_n 0, 1, 0, 0, 0, 0), (224, .getfield 31, 3, 8, 18, 698, 0), (227, .iload 6, 2, 0, 0, 0, 0), (229, .iaload, 1, 0, 0, 0, 0), (230, .ifCond .le 10, 3, 240, 0, 0, 0), (233, .iconst 1, 1, 0, 0, 0, 0), (234, .iload 6, 2, 0, 0, 0, 0), (236, .ishl, 1, 0, 0, 0, 0), (237, .goto 4, 3, 241, 0, 0, 0), (240, .iconst 0, 1, 0, 0, 0, 0), (241, .ior, 1, 0, 0, 0, 0), (242, .istore 5, 2, 0, 0, 0, 0), (244, .iinc 6 1, 3, 0, 0, 0, 0), (247, .goto (-45), 3, 202, 0, 0, 0), (250, .iload_n 2, 1, 0, 0, 0, 0), (251, .ifCond .ne 8, 3, 259, 0, 0, 0), (254, .iload 4, 2, 0, 0, 0, 0), (256, .goto 5, 3, 261, 0, 0, 0), (259, .iload 5, 2, 0, 0, 0, 0), (261, .ireturn, 1, 0, 0, 0, 0)]
def T_127 : List TE := T_127_0 ++ T_127_1 ++ T_127_2 ++ T_127_3
def T_128_0 : List TE := [(0, .aload_n 0, 1, 0, 0, 0, 0), (1, .iload_n 1, 1, 0, 0, 0, 0), (2, .invokevirtual 143, 3, 0, 101, 878, 1), (5, .ifCond .ne 6, 3, 11, 0, 0, 0), (8, .bipush (-101), 2, 0, 0, 0, 0), (10, .ireturn, 1, 0, 0, 0, 0), (11, .iload_n 2, 1, 0, 0, 0, 0), (12, .i2l, 1, 0, 0, 0, 0), (13, .lconst 0, 1, 0, 0, 0, 0), (14, .lconst 1, 1, 0, 0, 0, 0), (15, .invokestatic 55, 3, 1, 86, 779, 3), (18, .ifCond .eq 12, 3, 30, 0, 0, 0), (21, .aload_n 0, 1, 0, 0, 0, 0), (22, .iload_n 1, 1, 0, 0, 0, 0), (23, .iload_n 2, 1, 0, 0, 0, 0), (24, .invokevirtual 183, 3, 0, 127, 943, 2), (27, .goto 5, 3, 32, 0, 0, 0), (30, .bipush (-102), 2, 0, 0, 0, 0), (32, .ireturn, 1, 0, 0, 0, 0)]
def T_128 : List TE := T_128_0
def T_129_0 : List TE := [(0, .aload_n 0, 1, 0, 0, 0, 0), (1, .ldc2_w 186, 3, 0, 0, 959, 1103515245), (4, .aload_n 0, 1, 0, 0, 0, 0), (5, .getfield 188, 3, 8, 20, 700, 0), (8, .i2l, 1, 0, 0, 0, 0), (9, .lmul, 1, 0, 0, 0, 0), (10, .ldc2_w 191, 3, 0, 0, 960, 12345), (13, .ladd, 1, 0, 0, 0, 0), (14, .ldc2_w 193, 3, 0, 0, 961, 2147483647), (17, .land, 1, 0, 0, 0, 0), (18, .l2i, 1, 0, 0, 0, 0), (19, .putfield 188, 3, 8, 20, 700, 0), (22, .aload_n 0, 1, 0, 0, 0, 0), (23, .getfield 188, 3, 8, 20, 700, 0), (26, .ldc 195, 2, 0, 0, 962, 65536), (28, .idiv, 1, 0, 0, 0, 0), (29, .iload_n 1, 1, 0, 0, 0, 0), (30, .irem, 1, 0, 0, 0, 0), (31, .ireturn, 1, 0, 0, 0, 0)]
def T_129 : List TE := T_129_0
def T_130_0 : List TE := [(0, .iload_n 1, 1, 0, 0, 0, 0), (1, .i2l, 1, 0, 0, 0, 0), (2, .lconst 1, 1, 0, 0, 0, 0), (3, .ldc2_w 196, 3, 0, 0, 954, 60), (6, .invokestatic 55, 3, 1, 86, 779, 3), (9, .ifCond .eq 19, 3, 28, 0, 0, 0), (12, .iload_n 2, 1, 0, 0, 0, 0), (13, .ifCond .lt 15, 3, 28, 0, 0, 0), (16, .iload_n 3, 1, 0, 0, 0, 0), (17, .i2l, 1, 0, 0, 0, 0), (18, .lconst 0, 1, 0, 0, 0, 0), (19, .ldc2_w 153, 3, 0, 0, 898, 2), (22, .invokestatic 55, 3, 1, 86, 779, 3), (25, .ifCond .ne 6, 3, 31, 0, 0, 0), (28, .bipush (-102), 2, 0, 0, 0, 0), (30, .ireturn, 1, 0, 0, 0, 0), (31, .aload_n 0, 1, 0, 0, 0, 0), (32, .invokevirtual 99, 3, 0, 95, 818, 0), (35, .ifCond .eq 6, 3, 41, 0, 0, 0), (38, .bipush (-103), 2, 0, 0, 0, 0), (40, .ireturn, 1, 0, 0, 0, 0), (41, .aload_n 0, 1, 0, 0, 0, 0), (42, .invokevirtual 149, 3, 0, 103, 890, 0), (45, .istore 4, 2, 0, 0, 0, 0), (47, .aload_n 0, 1, 0, 0, 0, 0), (48, .iload_n 2, 1, 0, 0, 0, 0), (49, .putfield 188, 3, 8, 20, 700, 0), (52, .iconst 0, 1, 0, 0, 0, 0), (53, .istore 5, 2, 0, 0, 0, 0), (55, .iload 5, 2, 0, 0, 0, 0), (57, .aload_n 0, 1, 0, 0, 0, 0), (58, .getfield 85, 3, 8, 10, 690, 0), (61, .if_icmp .ge 25, 3, 86, 0, 0, 0), (64, .aload_n 0, 1, 0, 0, 0, 0), (65, .getfield 37, 3, 8, 21, 701, 0), (68, .iload 5, 2, 0, 0, 0, 0), (70, .aload_n 0, 1, 0, 0, 0, 0), (71, .getfield 19, 3, 8, 12, 692, 0), (74, .iconst 2, 1, 0, 0, 0, 0), (75, .iload 5, 2, 0, 0, 0, 0)]
def T_130_1 : List TE := [(77, .imul, 1, 0, 0, 0, 0), (78, .iaload, 1, 0, 0, 0, 0), (79, .iastore, 1, 0, 0, 0, 0), (80, .iinc 5 1, 3, 0, 0, 0, 0), (83, .goto (-28), 3, 55, 0, 0, 0), (86, .iconst 0, 1, 0, 0, 0, 0), (87, .istore 5, 2, 0, 0, 0, 0), (89, .iconst 0, 1, 0, 0, 0, 0), (90, .istore 6, 2, 0, 0, 0, 0), (92, .iload 6, 2, 0, 0, 0, 0), (94, .iload_n 1, 1, 0, 0, 0, 0), (95, .if_icmp .ge 72, 3, 167, 0, 0, 0), (98, .iconst 0, 1, 0, 0, 0, 0), (99, .istore 7, 2, 0, 0, 0, 0), (101, .iload 7, 2, 0, 0, 0, 0), (103, .aload_n 0, 1, 0, 0, 0, 0), (104, .getfield 85, 3, 8, 10, 690, 0), (107, .if_icmp .ge 54, 3, 161, 0, 0, 0), (110, .aload_n 0, 1, 0, 0, 0, 0), (111, .aload_n 0, 1, 0, 0, 0, 0), (112, .getfield 37, 3, 8, 21, 701, 0), (115, .iload 7, 2, 0, 0, 0, 0), (117, .iaload, 1, 0, 0, 0, 0), (118, .aload_n 0, 1, 0, 0, 0, 0), (119, .iconst 4, 1, 0, 0, 0, 0), (120, .invokevirtual 198, 3, 0, 129, 955, 1), (123, .invokevirtual 146, 3, 0, 114, 886, 2), (126, .istore 8, 2, 0, 0, 0, 0), (128, .iload 8, 2, 0, 0, 0, 0), (130, .iconst (-1), 1, 0, 0, 0, 0), (131, .if_icmp .eq 24, 3, 155, 0, 0, 0), (134, .aload_n 0, 1, 0, 0, 0, 0), (135, .getfield 37, 3, 8, 21, 701, 0), (138, .iload 7, 2, 0, 0, 0, 0), (140, .iload 8, 2, 0, 0, 0, 0), (142, .iastore, 1, 0, 0, 0, 0), (143, .iload 5, 2, 0, 0, 0, 0), (145, .iload 4, 2, 0, 0, 0, 0), (147, .iload 8, 2, 0, 0, 0, 0), (149, .ishr, 1, 0, 0, 0, 0)]
def T_130_2 : List TE := [(150, .iconst 1, 1, 0, 0, 0, 0), (151, .iand, 1, 0, 0, 0, 0), (152, .iadd, 1, 0, 0, 0, 0), (153, .istore 5, 2, 0, 0, 0, 0), (155, .iinc 7 1, 3, 0, 0, 0, 0), (158, .goto (-57), 3, 101, 0, 0, 0), (161, .iinc 6 1, 3, 0, 0, 0, 0), (164, .goto (-72), 3, 92, 0, 0, 0), (167, .iload_n 3, 1, 0, 0, 0, 0), (168, .ifCond .ne 8, 3, 176, 0, 0, 0), (171, .iload 5, 2, 0, 0, 0, 0), (173, .goto 32, 3, 205, 0, 0, 0), (176, .iload_n 3, 1, 0, 0, 0, 0), (177, .iconst 1, 1, 0, 0, 0, 0), (178, .if_icmp .ne 23, 3, 201, 0, 0, 0), (181, .aload_n 0, 1, 0, 0, 0, 0), (182, .getfield 85, 3, 8, 10, 690, 0), (185, .ifCond .ne 7, 3, 192, 0, 0, 0), (188, .iconst (-1), 1, 0, 0, 0, 0), (189, .goto 16, 3, 205, 0, 0, 0), (192, .aload_n 0, 1, 0, 0, 0, 0), (193, .getfield 37, 3, 8, 21, 701, 0), (196, .iconst 0, 1, 0, 0, 0, 0), (197, .iaload, 1, 0, 0, 0, 0), (198, .goto 7, 3, 205, 0, 0, 0), (201, .aload_n 0, 1, 0, 0, 0, 0), (202, .getfield 188, 3, 8, 20, 700, 0), (205, .ireturn, 1, 0, 0, 0, 0)]
def T_130 : List TE := T_130_0 ++ T_130_1 ++ T_130_2
def T_131_0 : List TE := [(0, .iconst 0, 1, 0, 0, 0, 0), (1, .istore_n 2, 1, 0, 0, 0, 0), (2, .iload_n 2, 1, 0, 0, 0, 0), (3, .aload_n 0, 1, 0, 0, 0, 0), (4, .arraylength, 1, 0, 0, 0, 0), (5, .if_icmp .ge 15, 3, 20, 0, 0, 0), (8, .aload_n 1, 1, 0, 0, 0, 0), (9, .iload_n 2, 1, 0, 0, 0, 0), (10, .aload_n 0, 1, 0, 0, 0, 0), (11, .iload_n 2, 1, 0, 0, 0, 0), (12, .iaload, 1, 0, 0, 0, 0), (13, .iastore, 1, 0, 0, 0, 0), (14, .iinc 2 1, 3, 0, 0, 0, 0), (17, .goto (-15), 3, 2, 0, 0, 0), (20, .return_, 1, 0, 0, 0, 0)]
def T_131 : List TE := T_131_0
def T_132_0 : List TE := [(0, .iconst 0, 1, 0, 0, 0, 0), (1, .istore_n 1, 1, 0, 0, 0, 0), (2, .iconst 0, 1, 0, 0, 0, 0), (3, .istore_n 2, 1, 0, 0, 0, 0), (4, .iload_n 2, 1, 0, 0, 0, 0), (5, .aload_n 0, 1, 0, 0, 0, 0), (6, .getfield 85, 3, 8, 10, 690, 0), (9, .if_icmp .ge 22, 3, 31, 0, 0, 0), (12, .iload_n 1, 1, 0, 0, 0, 0), (13, .aload_n 0, 1, 0, 0, 0, 0), (14, .getfield 19, 3, 8, 12, 692, 0), (17, .iconst 2, 1, 0, 0, 0, 0), (18, .iload_n 2, 1, 0, 0, 0, 0), (19, .imul, 1, 0, 0, 0, 0), (20, .iconst 1, 1, 0, 0, 0, 0), (21, .iadd, 1, 0, 0, 0, 0), (22, .iaload, 1, 0, 0, 0, 0), (23, .iadd, 1, 0, 0, 0, 0), (24, .istore_n 1, 1, 0, 0, 0, 0), (25, .iinc 2 1, 3, 0, 0, 0, 0), (28, .goto (-24), 3, 4, 0, 0, 0), (31, .iload_n 1, 1, 0, 0, 0, 0), (32, .ireturn, 1, 0, 0, 0, 0)]
def T_132 : List TE := T_132_0
def T_133_0 : List TE := [(0, .aload_n 0, 1, 0, 0, 0, 0), (1, .invokevirtual 99, 3, 0, 95, 818, 0), (4, .ifCond .eq 6, 3, 10, 0, 0, 0), (7, .bipush (-103), 2, 0, 0, 0, 0), (9, .ireturn, 1, 0, 0, 0, 0), (10, .aload_n 0, 1, 0, 0, 0, 0), (11, .getfield 16, 3, 8, 11, 691, 0), (14, .aload_n 0, 1, 0, 0, 0, 0), (15, .getfield 40, 3, 8, 27, 707, 0), (18, .invokestatic 179, 3, 1, 131, 947, 2), (21, .aload_n 0, 1, 0, 0, 0, 0), (22, .getfield 19, 3, 8, 12, 692, 0), (25, .aload_n 0, 1, 0, 0, 0, 0), (26, .getfield 43, 3, 8, 28, 708, 0), (29, .invokestatic 179, 3, 1, 131, 947, 2), (32, .aload_n 0, 1, 0, 0, 0, 0), (33, .getfield 28, 3, 8, 17, 697, 0), (36, .aload_n 0, 1, 0, 0, 0, 0), (37, .getfield 46, 3, 8, 29, 709, 0), (40, .invokestatic 179, 3, 1, 131, 947, 2), (43, .aload_n 0, 1, 0, 0, 0, 0), (44, .aload_n 0, 1, 0, 0, 0, 0), (45, .getfield 79, 3, 8, 3, 683, 0), (48, .putfield 201, 3, 8, 23, 703, 0), (51, .aload_n 0, 1, 0, 0, 0, 0), (52, .aload_n 0, 1, 0, 0, 0, 0), (53, .getfield 82, 3, 8, 9, 689, 0), (56, .putfield 204, 3, 8, 24, 704, 0), (59, .aload_n 0, 1, 0, 0, 0, 0), (60, .aload_n 0, 1, 0, 0, 0, 0), (61, .getfield 85, 3, 8, 10, 690, 0), (64, .putfield 207, 3, 8, 25, 705, 0), (67, .aload_n 0, 1, 0, 0, 0, 0), (68, .aload_n 0, 1, 0, 0, 0, 0), (69, .getfield 88, 3, 8, 16, 696, 0), (72, .putfield 210, 3, 8, 26, 706, 0), (75, .aload_n 0, 1, 0, 0, 0, 0), (76, .aload_n 0, 1, 0, 0, 0, 0), (77, .getfield 91, 3, 8, 4, 684, 0), (80, .putfield 49, 3, 8, 22, 702, 0)]
def T_133_1 : List TE := [(83, .aload_n 0, 1, 0, 0, 0, 0), (84, .invokevirtual 213, 3, 0, 132, 967, 0), (87, .ireturn, 1, 0, 0, 0, 0)]
def T_133 : List TE := T_133_0 ++ T_133_1
def T_134_0 : List TE := [(0, .aload_n 0, 1, 0, 0, 0, 0), (1, .getfield 49, 3, 8, 22, 702, 0), (4, .aload_n 0, 1, 0, 0, 0, 0), (5, .getfield 91, 3, 8, 4, 684, 0), (8, .if_icmp .eq 6, 3, 14, 0, 0, 0), (11, .bipush (-103), 2, 0, 0, 0, 0), (13, .ireturn, 1, 0, 0, 0, 0), (14, .aload_n 0, 1, 0, 0, 0, 0), (15, .getfield 40, 3, 8, 27, 707, 0), (18, .aload_n 0, 1, 0, 0, 0, 0), (19, .getfield 16, 3, 8, 11, 691, 0), (22, .invokestatic 179, 3, 1, 131, 947, 2), (25, .aload_n 0, 1, 0, 0, 0, 0), (26, .getfield 43, 3, 8, 28, 708, 0), (29, .aload_n 0, 1, 0, 0, 0, 0), (30, .getfield 19, 3, 8, 12, 692, 0), (33, .invokestatic 179, 3, 1, 131, 947, 2), (36, .aload_n 0, 1, 0, 0, 0, 0), (37, .getfield 46, 3, 8, 29, 709, 0), (40, .aload_n 0, 1, 0, 0, 0, 0), (41, .getfield 28, 3, 8, 17, 697, 0), (44, .invokestatic 179, 3, 1, 131, 947, 2), (47, .aload_n 0, 1, 0, 0, 0, 0), (48, .aload_n 0, 1, 0, 0, 0, 0), (49, .getfield 201, 3, 8, 23, 703, 0), (52, .putfield 79, 3, 8, 3, 683, 0), (55, .aload_n 0, 1, 0, 0, 0, 0), (56, .aload_n 0, 1, 0, 0, 0, 0), (57, .getfield 204, 3, 8, 24, 704, 0), (60, .putfield 82, 3, 8, 9, 689, 0), (63, .aload_n 0, 1, 0, 0, 0, 0), (64, .aload_n 0, 1, 0, 0, 0, 0), (65, .getfield 207, 3, 8, 25, 705, 0), (68, .putfield 85, 3, 8, 10, 690, 0), (71, .aload_n 0, 1, 0, 0, 0, 0), (72, .aload_n 0, 1, 0, 0, 0, 0), (73, .getfield 210, 3, 8, 26, 706, 0), (76, .putfield 88, 3, 8, 16, 696, 0), (79, .aload_n 0, 1, 0, 0, 0, 0), (80, .invokevirtual 213, 3, 0, 132, 967, 0)]
def T_134_1 : List TE := [(83, .ireturn, 1, 0, 0, 0, 0)]
def T_134 : List TE := T_134_0 ++ T_134_1
def T_135_0 : List TE := [(0, .iload_n 1, 1, 0, 0, 0, 0), (1, .tableswitch 117 0 10 #[59, 64, 69, 77, 82, 87, 92, 97, 102, 107, 112], 59, 0, 0, 0, 0), (60, .aload_n 0, 1, 0, 0, 0, 0), (61, .getfield 76, 3, 8, 2, 682, 0), (64, .ireturn, 1, 0, 0, 0, 0), (65, .aload_n 0, 1, 0, 0, 0, 0), (66, .invokevirtual 94, 3, 0, 93, 805, 0), (69, .ireturn, 1, 0, 0, 0, 0), (70, .aload_n 0, 1, 0, 0, 0, 0), (71, .invokevirtual 149, 3, 0, 103, 890, 0), (74, .invokestatic 159, 3, 1, 118, 912, 1), (77, .ireturn, 1, 0, 0, 0, 0), (78, .aload_n 0, 1, 0, 0, 0, 0), (79, .getfield 79, 3, 8, 3, 683, 0), (82, .ireturn, 1, 0, 0, 0, 0), (83, .aload_n 0, 1, 0, 0, 0, 0), (84, .getfield 82, 3, 8, 9, 689, 0), (87, .ireturn, 1, 0, 0, 0, 0), (88, .aload_n 0, 1, 0, 0, 0, 0), (89, .getfield 85, 3, 8, 10, 690, 0), (92, .ireturn, 1, 0, 0, 0, 0), (93, .aload_n 0, 1, 0, 0, 0, 0), (94, .invokevirtual 213, 3, 0, 132, 967, 0), (97, .ireturn, 1, 0, 0, 0, 0), (98, .aload_n 0, 1, 0, 0, 0, 0), (99, .getfield 88, 3, 8, 16, 696, 0), (102, .ireturn, 1, 0, 0, 0, 0), (103, .aload_n 0, 1, 0, 0, 0, 0), (104, .getfield 59, 3, 8, 1, 681, 0), (107, .ireturn, 1, 0, 0, 0, 0), (108, .aload_n 0, 1, 0, 0, 0, 0), (109, .getfield 91, 3, 8, 4, 684, 0), (112, .ireturn, 1, 0, 0, 0, 0), (113, .aload_n 0, 1, 0, 0, 0, 0), (114, .getfield 171, 3, 8, 15, 695, 0), (117, .ireturn, 1, 0, 0, 0, 0), (118, .bipush (-102), 2, 0, 0, 0, 0), (120, .ireturn, 1, 0, 0, 0, 0)]
def T_135 : List TE := T_135_0
def T_136_0 : List TE := [(0, .aload_n 0, 1, 0, 0, 0, 0), (1, .iload_n 1, 1, 0, 0, 0, 0), (2, .invokevirtual 216, 3, 0, 135, 979, 1), (5, .ireturn, 1, 0, 0, 0, 0)]
def T_136 : List TE := T_136_0
def T_137_0 : List TE := [(0, .aload_n 0, 1, 0, 0, 0, 0), (1, .ldc2_w 219, 3, 0, 0, 992, 31), (4, .aload_n 0, 1, 0, 0, 0, 0), (5, .getfield 221, 3, 8, 30, 710, 0), (8, .lmul, 1, 0, 0, 0, 0), (9, .lload_n 1, 1, 0, 0, 0, 0), (10, .ladd, 1, 0, 0, 0, 0), (11, .putfield 221, 3, 8, 30, 710, 0), (14, .return_, 1, 0, 0, 0, 0)]
def T_137 : List TE := T_137_0
def T_138_0 : List TE := [(0, .aload_n 0, 1, 0, 0, 0, 0), (1, .ldc2_w 225, 3, 0, 0, 987, 839), (4, .putfield 221, 3, 8, 30, 710, 0), (7, .iconst 0, 1, 0, 0, 0, 0), (8, .istore_n 1, 1, 0, 0, 0, 0), (9, .iload_n 1, 1, 0, 0, 0, 0), (10, .bipush 12, 2, 0, 0, 0, 0), (12, .if_icmp .ge 40, 3, 52, 0, 0, 0), (15, .aload_n 0, 1, 0, 0, 0, 0), (16, .invokevirtual 99, 3, 0, 95, 818, 0), (19, .ifCond .ne 33, 3, 52, 0, 0, 0), (22, .iconst 0, 1, 0, 0, 0, 0), (23, .istore_n 2, 1, 0, 0, 0, 0), (24, .iload_n 2, 1, 0, 0, 0, 0), (25, .iconst 4, 1, 0, 0, 0, 0), (26, .if_icmp .ge 20, 3, 46, 0, 0, 0), (29, .aload_n 0, 1, 0, 0, 0, 0), (30, .aload_n 0, 1, 0, 0, 0, 0), (31, .iload_n 1, 1, 0, 0, 0, 0), (32, .iload_n 2, 1, 0, 0, 0, 0), (33, .invokevirtual 129, 3, 0, 104, 822, 2), (36, .i2l, 1, 0, 0, 0, 0), (37, .invokevirtual 227, 3, 0, 137, 988, 1), (40, .iinc 2 1, 3, 0, 0, 0, 0), (43, .goto (-19), 3, 24, 0, 0, 0), (46, .iinc 1 1, 3, 0, 0, 0, 0), (49, .goto (-40), 3, 9, 0, 0, 0), (52, .iconst 0, 1, 0, 0, 0, 0), (53, .istore_n 1, 1, 0, 0, 0, 0), (54, .iload_n 1, 1, 0, 0, 0, 0), (55, .iconst 2, 1, 0, 0, 0, 0), (56, .if_icmp .ge 26, 3, 82, 0, 0, 0), (59, .aload_n 0, 1, 0, 0, 0, 0), (60, .invokevirtual 99, 3, 0, 95, 818, 0), (63, .ifCond .ne 19, 3, 82, 0, 0, 0), (66, .aload_n 0, 1, 0, 0, 0, 0), (67, .aload_n 0, 1, 0, 0, 0, 0), (68, .iload_n 1, 1, 0, 0, 0, 0), (69, .invokevirtual 162, 3, 0, 119, 908, 1), (72, .i2l, 1, 0, 0, 0, 0)]
def T_138_1 : List TE := [(73, .invokevirtual 227, 3, 0, 137, 988, 1), (76, .iinc 1 1, 3, 0, 0, 0, 0), (79, .goto (-25), 3, 54, 0, 0, 0), (82, .iconst 0, 1, 0, 0, 0, 0), (83, .istore_n 1, 1, 0, 0, 0, 0), (84, .iload_n 1, 1, 0, 0, 0, 0), (85, .aload_n 0, 1, 0, 0, 0, 0), (86, .getfield 82, 3, 8, 9, 689, 0), (89, .if_icmp .ge 33, 3, 122, 0, 0, 0), (92, .iconst 0, 1, 0, 0, 0, 0), (93, .istore_n 2, 1, 0, 0, 0, 0), (94, .iload_n 2, 1, 0, 0, 0, 0), (95, .iconst 4, 1, 0, 0, 0, 0), (96, .if_icmp .ge 20, 3, 116, 0, 0, 0), (99, .aload_n 0, 1, 0, 0, 0, 0), (100, .aload_n 0, 1, 0, 0, 0, 0), (101, .iload_n 1, 1, 0, 0, 0, 0), (102, .iload_n 2, 1, 0, 0, 0, 0), (103, .invokevirtual 140, 3, 0, 110, 866, 2), (106, .i2l, 1, 0, 0, 0, 0), (107, .invokevirtual 227, 3, 0, 137, 988, 1), (110, .iinc 2 1, 3, 0, 0, 0, 0), (113, .goto (-19), 3, 94, 0, 0, 0), (116, .iinc 1 1, 3, 0, 0, 0, 0), (119, .goto (-35), 3, 84, 0, 0, 0), (122, .iconst 0, 1, 0, 0, 0, 0), (123, .istore_n 1, 1, 0, 0, 0, 0), (124, .iload_n 1, 1, 0, 0, 0, 0), (125, .aload_n 0, 1, 0, 0, 0, 0), (126, .getfield 85, 3, 8, 10, 690, 0), (129, .if_icmp .ge 59, 3, 188, 0, 0, 0), (132, .aload_n 0, 1, 0, 0, 0, 0), (133, .aload_n 0, 1, 0, 0, 0, 0), (134, .getfield 19, 3, 8, 12, 692, 0), (137, .iconst 2, 1, 0, 0, 0, 0), (138, .iload_n 1, 1, 0, 0, 0, 0), (139, .imul, 1, 0, 0, 0, 0), (140, .iaload, 1, 0, 0, 0, 0), (141, .i2l, 1, 0, 0, 0, 0), (142, .invokevirtual 227, 3, 0, 137, 988, 1)]
def T_138_2 : List TE := [(145, .aload_n 0, 1, 0, 0, 0, 0), (146, .aload_n 0, 1, 0, 0, 0, 0), (147, .getfield 19, 3, 8, 12, 692, 0), (150, .iconst 2, 1, 0, 0, 0, 0), (151, .iload_n 1, 1, 0, 0, 0, 0), (152, .imul, 1, 0, 0, 0, 0), (153, .iconst 1, 1, 0, 0, 0, 0), (154, .iadd, 1, 0, 0, 0, 0), (155, .iaload, 1, 0, 0, 0, 0), (156, .i2l, 1, 0, 0, 0, 0), (157, .invokevirtual 227, 3, 0, 137, 988, 1), (160, .aload_n 0, 1, 0, 0, 0, 0), (161, .aload_n 0, 1, 0, 0, 0, 0), (162, .iload_n 1, 1, 0, 0, 0, 0), (163, .iconst 0, 1, 0, 0, 0, 0), (164, .invokevirtual 183, 3, 0, 127, 943, 2), (167, .i2l, 1, 0, 0, 0, 0), (168, .invokevirtual 227, 3, 0, 137, 988, 1), (171, .aload_n 0, 1, 0, 0, 0, 0), (172, .aload_n 0, 1, 0, 0, 0, 0), (173, .iload_n 1, 1, 0, 0, 0, 0), (174, .iconst 1, 1, 0, 0, 0, 0), (175, .invokevirtual 183, 3, 0, 127, 943, 2), (178, .i2l, 1, 0, 0, 0, 0), (179, .invokevirtual 227, 3, 0, 137, 988, 1), (182, .iinc 1 1, 3, 0, 0, 0, 0), (185, .goto (-61), 3, 124, 0, 0, 0), (188, .iconst 0, 1, 0, 0, 0, 0), (189, .istore_n 1, 1, 0, 0, 0, 0), (190, .iload_n 1, 1, 0, 0, 0, 0), (191, .aload_n 0, 1, 0, 0, 0, 0), (192, .getfield 59, 3, 8, 1, 681, 0), (195, .if_icmp .ge 20, 3, 215, 0, 0, 0), (198, .aload_n 0, 1, 0, 0, 0, 0), (199, .aload_n 0, 1, 0, 0, 0, 0), (200, .getfield 7, 3, 8, 0, 680, 0), (203, .iload_n 1, 1, 0, 0, 0, 0), (204, .iaload, 1, 0, 0, 0, 0), (205, .i2l, 1, 0, 0, 0, 0), (206, .invokevirtual 227, 3, 0, 137, 988, 1)]
def T_138_3 : List TE := [(209, .iinc 1 1, 3, 0, 0, 0, 0), (212, .goto (-22), 3, 190, 0, 0, 0), (215, .iconst 0, 1, 0, 0, 0, 0), (216, .istore_n 1, 1, 0, 0, 0, 0), (217, .iload_n 1, 1, 0, 0, 0, 0), (218, .bipush 11, 2, 0, 0, 0, 0), (220, .if_icmp .ge 19, 3, 239, 0, 0, 0), (223, .aload_n 0, 1, 0, 0, 0, 0), (224, .aload_n 0, 1, 0, 0, 0, 0), (225, .iload_n 1, 1, 0, 0, 0, 0), (226, .invokevirtual 216, 3, 0, 135, 979, 1), (229, .i2l, 1, 0, 0, 0, 0), (230, .invokevirtual 227, 3, 0, 137, 988, 1), (233, .iinc 1 1, 3, 0, 0, 0, 0), (236, .goto (-19), 3, 217, 0, 0, 0), (239, .aload_n 0, 1, 0, 0, 0, 0), (240, .getfield 221, 3, 8, 30, 710, 0), (243, .lreturn, 1, 0, 0, 0, 0)]
def T_138 : List TE := T_138_0 ++ T_138_1 ++ T_138_2 ++ T_138_3
def T_139_0 : List TE := [(0, .iload_n 0, 1, 0, 0, 0, 0), (1, .iload_n 0, 1, 0, 0, 0, 0), (2, .iconst 1, 1, 0, 0, 0, 0), (3, .iushr, 1, 0, 0, 0, 0), (4, .ldc_w 265, 3, 0, 0, 562, 1431655765), (7, .iand, 1, 0, 0, 0, 0), (8, .isub, 1, 0, 0, 0, 0), (9, .istore_n 0, 1, 0, 0, 0, 0), (10, .iload_n 0, 1, 0, 0, 0, 0), (11, .ldc_w 266, 3, 0, 0, 563, 858993459), (14, .iand, 1, 0, 0, 0, 0), (15, .iload_n 0, 1, 0, 0, 0, 0), (16, .iconst 2, 1, 0, 0, 0, 0), (17, .iushr, 1, 0, 0, 0, 0), (18, .ldc_w 266, 3, 0, 0, 563, 858993459), (21, .iand, 1, 0, 0, 0, 0), (22, .iadd, 1, 0, 0, 0, 0), (23, .istore_n 0, 1, 0, 0, 0, 0), (24, .iload_n 0, 1, 0, 0, 0, 0), (25, .iload_n 0, 1, 0, 0, 0, 0), (26, .iconst 4, 1, 0, 0, 0, 0), (27, .iushr, 1, 0, 0, 0, 0), (28, .iadd, 1, 0, 0, 0, 0), (29, .ldc_w 267, 3, 0, 0, 564, 252645135), (32, .iand, 1, 0, 0, 0, 0), (33, .istore_n 0, 1, 0, 0, 0, 0), (34, .iload_n 0, 1, 0, 0, 0, 0), (35, .iload_n 0, 1, 0, 0, 0, 0), (36, .bipush 8, 2, 0, 0, 0, 0), (38, .iushr, 1, 0, 0, 0, 0), (39, .iadd, 1, 0, 0, 0, 0), (40, .istore_n 0, 1, 0, 0, 0, 0), (41, .iload_n 0, 1, 0, 0, 0, 0), (42, .iload_n 0, 1, 0, 0, 0, 0), (43, .bipush 16, 2, 0, 0, 0, 0), (45, .iushr, 1, 0, 0, 0, 0), (46, .iadd, 1, 0, 0, 0, 0), (47, .istore_n 0, 1, 0, 0, 0, 0), (48, .iload_n 0, 1, 0, 0, 0, 0), (49, .bipush 63, 2, 0, 0, 0, 0)]
def T_139_1 : List TE := [(51, .iand, 1, 0, 0, 0, 0), (52, .ireturn, 1, 0, 0, 0, 0)]
def T_139 : List TE := T_139_0 ++ T_139_1
def T_140_0 : List TE := [(0, .aload_n 0, 1, 0, 0, 0, 0), (1, .getfield 9, 3, 20, 1, 994, 0), (4, .arraylength, 1, 0, 0, 0, 0), (5, .aload_n 0, 1, 0, 0, 0, 0), (6, .invokevirtual 335, 3, 0, 143, 291, 0), (9, .ishr, 1, 0, 0, 0, 0), (10, .ireturn, 1, 0, 0, 0, 0)]
def T_140 : List TE := T_140_0
def T_141_0 : List TE := [(0, .aload_n 0, 1, 0, 0, 0, 0), (1, .iload_n 1, 1, 0, 0, 0, 0), (2, .iconst 0, 1, 0, 0, 0, 0), (3, .invokevirtual 633, 3, 0, 142, 277, 2), (6, .ireturn, 1, 0, 0, 0, 0)]
def T_141 : List TE := T_141_0
def T_142_0 : List TE := [(0, .aload_n 0, 1, 0, 0, 0, 0), (1, .invokevirtual 492, 3, 0, 144, 281, 0), (4, .ifCond .eq 19, 3, 23, 0, 0, 0), (7, .aload_n 0, 1, 0, 0, 0, 0), (8, .getfield 9, 3, 20, 1, 994, 0), (11, .iload_n 1, 1, 0, 0, 0, 0), (12, .iload_n 2, 1, 0, 0, 0, 0), (13, .aload_n 0, 1, 0, 0, 0, 0), (14, .invokevirtual 505, 3, 0, 140, 287, 0), (17, .invokestatic 637, 3, 1, 146, 295, 4), (20, .goto 16, 3, 36, 0, 0, 0), (23, .aload_n 0, 1, 0, 0, 0, 0), (24, .getfield 9, 3, 20, 1, 994, 0), (27, .iload_n 1, 1, 0, 0, 0, 0), (28, .iload_n 2, 1, 0, 0, 0, 0), (29, .aload_n 0, 1, 0, 0, 0, 0), (30, .invokevirtual 505, 3, 0, 140, 287, 0), (33, .invokestatic 640, 3, 99, 0, 0, 0), (36, .ireturn, 1, 0, 0, 0, 0)]
def T_142 : List TE := T_142_0
def T_143_0 : List TE := [(0, .getstatic 38, 3, 0, 0, 285, 0), (3, .ifCond .eq 10, 3, 13, 0, 0, 0), (6, .aload_n 0, 1, 0, 0, 0, 0), (7, .getfield 15, 3, 20, 0, 993, 0), (10, .goto 4, 3, 14, 0, 0, 0), (13, .iconst 1, 1, 0, 0, 0, 0), (14, .ireturn, 1, 0, 0, 0, 0)]
def T_143 : List TE := T_143_0
def T_144_0 : List TE := [(0, .getstatic 38, 3, 0, 0, 285, 0), (3, .ifCond .eq 14, 3, 17, 0, 0, 0), (6, .aload_n 0, 1, 0, 0, 0, 0), (7, .getfield 15, 3, 20, 0, 993, 0), (10, .ifCond .ne 7, 3, 17, 0, 0, 0), (13, .iconst 1, 1, 0, 0, 0, 0), (14, .goto 4, 3, 18, 0, 0, 0), (17, .iconst 0, 1, 0, 0, 0, 0), (18, .ireturn, 1, 0, 0, 0, 0)]
def T_144 : List TE := T_144_0
def T_145_0 : List TE := [(0, .iload_n 0, 1, 0, 0, 0, 0), (1, .ifCond .lt 14, 3, 15, 0, 0, 0), (4, .iload_n 0, 1, 0, 0, 0, 0), (5, .sipush 255, 3, 0, 0, 0, 0), (8, .if_icmp .gt 7, 3, 15, 0, 0, 0), (11, .iconst 1, 1, 0, 0, 0, 0), (12, .goto 4, 3, 16, 0, 0, 0), (15, .iconst 0, 1, 0, 0, 0, 0), (16, .ireturn, 1, 0, 0, 0, 0)]
def T_145 : List TE := T_145_0
def T_146_0 : List TE := [(0, .iload_n 1, 1, 0, 0, 0, 0), (1, .invokestatic 88, 3, 1, 145, 298, 1), (4, .ifCond .ne 5, 3, 9, 0, 0, 0), (7, .iconst (-1), 1, 0, 0, 0, 0), (8, .ireturn, 1, 0, 0, 0, 0), (9, .iload_n 2, 1, 0, 0, 0, 0), (10, .iconst 0, 1, 0, 0, 0, 0), (11, .invokestatic 92, 3, 6, 0, 301, 0), (14, .istore_n 2, 1, 0, 0, 0, 0), (15, .iload_n 3, 1, 0, 0, 0, 0), (16, .aload_n 0, 1, 0, 0, 0, 0), (17, .arraylength, 1, 0, 0, 0, 0), (18, .invokestatic 38, 3, 7, 0, 304, 0), (21, .istore_n 3, 1, 0, 0, 0, 0), (22, .iload_n 2, 1, 0, 0, 0, 0), (23, .iload_n 3, 1, 0, 0, 0, 0), (24, .if_icmp .lt 5, 3, 29, 0, 0, 0), (27, .iconst (-1), 1, 0, 0, 0, 0), (28, .ireturn, 1, 0, 0, 0, 0), (29, .aload_n 0, 1, 0, 0, 0, 0), (30, .iload_n 1, 1, 0, 0, 0, 0), (31, .iload_n 2, 1, 0, 0, 0, 0), (32, .iload_n 3, 1, 0, 0, 0, 0), (33, .invokestatic 95, 3, 1, 147, 307, 4), (36, .ireturn, 1, 0, 0, 0, 0)]
def T_146 : List TE := T_146_0
def T_147_0 : List TE := [(0, .iload_n 1, 1, 0, 0, 0, 0), (1, .i2b, 1, 0, 0, 0, 0), (2, .istore 4, 2, 0, 0, 0, 0), (4, .iload_n 2, 1, 0, 0, 0, 0), (5, .istore 5, 2, 0, 0, 0, 0), (7, .iload 5, 2, 0, 0, 0, 0), (9, .iload_n 3, 1, 0, 0, 0, 0), (10, .if_icmp .ge 21, 3, 31, 0, 0, 0), (13, .aload_n 0, 1, 0, 0, 0, 0), (14, .iload 5, 2, 0, 0, 0, 0), (16, .baload, 1, 0, 0, 0, 0), (17, .iload 4, 2, 0, 0, 0, 0), (19, .if_icmp .ne 6, 3, 25, 0, 0, 0), (22, .iload 5, 2, 0, 0, 0, 0), (24, .ireturn, 1, 0, 0, 0, 0), (25, .iinc 5 1, 3, 0, 0, 0, 0), (28, .goto (-21), 3, 7, 0, 0, 0), (31, .iconst (-1), 1, 0, 0, 0, 0), (32, .ireturn, 1, 0, 0, 0, 0)]
def T_147 : List TE := T_147_0
def T_148_0 : List TE := [(0, .new 7, 3, 7, 47, 46, 30), (3, .dup, 1, 0, 0, 0, 0), (4, .invokespecial 9, 3, 3, 48, 48, 0), (7, .astore_n 1, 1, 0, 0, 0, 0), (8, .new 10, 3, 8, 675, 674, 38), (11, .dup, 1, 0, 0, 0, 0), (12, .invokespecial 12, 3, 3, 85, 676, 0), (15, .astore_n 2, 1, 0, 0, 0, 0), (16, .iconst 0, 1, 0, 0, 0, 0), (17, .istore_n 3, 1, 0, 0, 0, 0), (18, .iload_n 3, 1, 0, 0, 0, 0), (19, .aload_n 0, 1, 0, 0, 0, 0), (20, .arraylength, 1, 0, 0, 0, 0), (21, .iconst 4, 1, 0, 0, 0, 0), (22, .isub, 1, 0, 0, 0, 0), (23, .if_icmp .gt 756, 3, 779, 0, 0, 0), (26, .aload_n 0, 1, 0, 0, 0, 0), (27, .iload_n 3, 1, 0, 0, 0, 0), (28, .iaload, 1, 0, 0, 0, 0), (29, .bipush 31, 2, 0, 0, 0, 0), (31, .iand, 1, 0, 0, 0, 0), (32, .tableswitch 741 0 23 #[112, 135, 148, 161, 174, 207, 240, 279, 312, 345, 378, 401, 434, 467, 510, 533, 566, 589, 602, 635, 678, 691, 704, 727], 112, 0, 0, 0, 0), (144, .aload_n 1, 1, 0, 0, 0, 0), (145, .aload_n 0, 1, 0, 0, 0, 0), (146, .iload_n 3, 1, 0, 0, 0, 0), (147, .iconst 1, 1, 0, 0, 0, 0), (148, .iadd, 1, 0, 0, 0, 0), (149, .iaload, 1, 0, 0, 0, 0), (150, .invokevirtual 13, 3, 0, 49, 236, 1), (153, .aload_n 2, 1, 0, 0, 0, 0), (154, .aload_n 0, 1, 0, 0, 0, 0), (155, .iload_n 3, 1, 0, 0, 0, 0), (156, .iconst 1, 1, 0, 0, 0, 0), (157, .iadd, 1, 0, 0, 0, 0), (158, .iaload, 1, 0, 0, 0, 0), (159, .invokevirtual 17, 3, 0, 87, 774, 1), (162, .if_icmp .eq 611, 3, 773, 0, 0, 0), (165, .iconst 0, 1, 0, 0, 0, 0), (166, .ireturn, 1, 0, 0, 0, 0), (167, .aload_n 1, 1, 0, 0, 0, 0)]
def T_148_1 : List TE := [(168, .invokevirtual 18, 3, 0, 50, 247, 0), (171, .aload_n 2, 1, 0, 0, 0, 0), (172, .invokevirtual 22, 3, 0, 88, 782, 0), (175, .if_icmp .eq 598, 3, 773, 0, 0, 0), (178, .iconst 0, 1, 0, 0, 0, 0), (179, .ireturn, 1, 0, 0, 0, 0), (180, .aload_n 1, 1, 0, 0, 0, 0), (181, .invokevirtual 23, 3, 0, 51, 255, 0), (184, .aload_n 2, 1, 0, 0, 0, 0), (185, .invokevirtual 26, 3, 0, 92, 786, 0), (188, .if_icmp .eq 585, 3, 773, 0, 0, 0), (191, .iconst 0, 1, 0, 0, 0, 0), (192, .ireturn, 1, 0, 0, 0, 0), (193, .aload_n 1, 1, 0, 0, 0, 0), (194, .invokevirtual 27, 3, 0, 52, 360, 0), (197, .aload_n 2, 1, 0, 0, 0, 0), (198, .invokevirtual 30, 3, 0, 94, 801, 0), (201, .if_icmp .eq 572, 3, 773, 0, 0, 0), (204, .iconst 0, 1, 0, 0, 0, 0), (205, .ireturn, 1, 0, 0, 0, 0), (206, .aload_n 1, 1, 0, 0, 0, 0), (207, .aload_n 0, 1, 0, 0, 0, 0), (208, .iload_n 3, 1, 0, 0, 0, 0), (209, .iconst 1, 1, 0, 0, 0, 0), (210, .iadd, 1, 0, 0, 0, 0), (211, .iaload, 1, 0, 0, 0, 0), (212, .aload_n 0, 1, 0, 0, 0, 0), (213, .iload_n 3, 1, 0, 0, 0, 0), (214, .iconst 2, 1, 0, 0, 0, 0), (215, .iadd, 1, 0, 0, 0, 0), (216, .iaload, 1, 0, 0, 0, 0), (217, .invokevirtual 31, 3, 0, 53, 402, 2), (220, .aload_n 2, 1, 0, 0, 0, 0), (221, .aload_n 0, 1, 0, 0, 0, 0), (222, .iload_n 3, 1, 0, 0, 0, 0), (223, .iconst 1, 1, 0, 0, 0, 0), (224, .iadd, 1, 0, 0, 0, 0), (225, .iaload, 1, 0, 0, 0, 0), (226, .aload_n 0, 1, 0, 0, 0, 0), (227, .iload_n 3, 1, 0, 0, 0, 0)]
def T_148_2 : List TE := [(228, .iconst 2, 1, 0, 0, 0, 0), (229, .iadd, 1, 0, 0, 0, 0), (230, .iaload, 1, 0, 0, 0, 0), (231, .invokevirtual 35, 3, 0, 105, 809, 2), (234, .if_icmp .eq 539, 3, 773, 0, 0, 0), (237, .iconst 0, 1, 0, 0, 0, 0), (238, .ireturn, 1, 0, 0, 0, 0), (239, .aload_n 1, 1, 0, 0, 0, 0), (240, .aload_n 0, 1, 0, 0, 0, 0), (241, .iload_n 3, 1, 0, 0, 0, 0), (242, .iconst 1, 1, 0, 0, 0, 0), (243, .iadd, 1, 0, 0, 0, 0), (244, .iaload, 1, 0, 0, 0, 0), (245, .aload_n 0, 1, 0, 0, 0, 0), (246, .iload_n 3, 1, 0, 0, 0, 0), (247, .iconst 2, 1, 0, 0, 0, 0), (248, .iadd, 1, 0, 0, 0, 0), (249, .iaload, 1, 0, 0, 0, 0), (250, .invokevirtual 36, 3, 0, 54, 446, 2), (253, .aload_n 2, 1, 0, 0, 0, 0), (254, .aload_n 0, 1, 0, 0, 0, 0), (255, .iload_n 3, 1, 0, 0, 0, 0), (256, .iconst 1, 1, 0, 0, 0, 0), (257, .iadd, 1, 0, 0, 0, 0), (258, .iaload, 1, 0, 0, 0, 0), (259, .aload_n 0, 1, 0, 0, 0, 0), (260, .iload_n 3, 1, 0, 0, 0, 0), (261, .iconst 2, 1, 0, 0, 0, 0), (262, .iadd, 1, 0, 0, 0, 0), (263, .iaload, 1, 0, 0, 0, 0), (264, .invokevirtual 39, 3, 0, 106, 837, 2), (267, .if_icmp .eq 506, 3, 773, 0, 0, 0), (270, .iconst 0, 1, 0, 0, 0, 0), (271, .ireturn, 1, 0, 0, 0, 0), (272, .aload_n 1, 1, 0, 0, 0, 0), (273, .aload_n 0, 1, 0, 0, 0, 0), (274, .iload_n 3, 1, 0, 0, 0, 0), (275, .iconst 1, 1, 0, 0, 0, 0), (276, .iadd, 1, 0, 0, 0, 0), (277, .iaload, 1, 0, 0, 0, 0)]
def T_148_3 : List TE := [(278, .ifCond .eq 7, 3, 285, 0, 0, 0), (281, .iconst 1, 1, 0, 0, 0, 0), (282, .goto 4, 3, 286, 0, 0, 0), (285, .iconst 0, 1, 0, 0, 0, 0), (286, .invokevirtual 40, 3, 0, 55, 453, 1), (289, .aload_n 2, 1, 0, 0, 0, 0), (290, .aload_n 0, 1, 0, 0, 0, 0), (291, .iload_n 3, 1, 0, 0, 0, 0), (292, .iconst 1, 1, 0, 0, 0, 0), (293, .iadd, 1, 0, 0, 0, 0), (294, .iaload, 1, 0, 0, 0, 0), (295, .ifCond .eq 7, 3, 302, 0, 0, 0), (298, .iconst 1, 1, 0, 0, 0, 0), (299, .goto 4, 3, 303, 0, 0, 0), (302, .iconst 0, 1, 0, 0, 0, 0), (303, .invokevirtual 44, 3, 0, 107, 842, 1), (306, .if_icmp .eq 467, 3, 773, 0, 0, 0), (309, .iconst 0, 1, 0, 0, 0, 0), (310, .ireturn, 1, 0, 0, 0, 0), (311, .aload_n 1, 1, 0, 0, 0, 0), (312, .aload_n 0, 1, 0, 0, 0, 0), (313, .iload_n 3, 1, 0, 0, 0, 0), (314, .iconst 1, 1, 0, 0, 0, 0), (315, .iadd, 1, 0, 0, 0, 0), (316, .iaload, 1, 0, 0, 0, 0), (317, .aload_n 0, 1, 0, 0, 0, 0), (318, .iload_n 3, 1, 0, 0, 0, 0), (319, .iconst 2, 1, 0, 0, 0, 0), (320, .iadd, 1, 0, 0, 0, 0), (321, .iaload, 1, 0, 0, 0, 0), (322, .invokevirtual 45, 3, 0, 56, 458, 2), (325, .aload_n 2, 1, 0, 0, 0, 0), (326, .aload_n 0, 1, 0, 0, 0, 0), (327, .iload_n 3, 1, 0, 0, 0, 0), (328, .iconst 1, 1, 0, 0, 0, 0), (329, .iadd, 1, 0, 0, 0, 0), (330, .iaload, 1, 0, 0, 0, 0), (331, .aload_n 0, 1, 0, 0, 0, 0), (332, .iload_n 3, 1, 0, 0, 0, 0), (333, .iconst 2, 1, 0, 0, 0, 0)]
def T_148_4 : List TE := [(334, .iadd, 1, 0, 0, 0, 0), (335, .iaload, 1, 0, 0, 0, 0), (336, .invokevirtual 48, 3, 0, 108, 846, 2), (339, .if_icmp .eq 434, 3, 773, 0, 0, 0), (342, .iconst 0, 1, 0, 0, 0, 0), (343, .ireturn, 1, 0, 0, 0, 0), (344, .aload_n 1, 1, 0, 0, 0, 0), (345, .aload_n 0, 1, 0, 0, 0, 0), (346, .iload_n 3, 1, 0, 0, 0, 0), (347, .iconst 1, 1, 0, 0, 0, 0), (348, .iadd, 1, 0, 0, 0, 0), (349, .iaload, 1, 0, 0, 0, 0), (350, .aload_n 0, 1, 0, 0, 0, 0), (351, .iload_n 3, 1, 0, 0, 0, 0), (352, .iconst 2, 1, 0, 0, 0, 0), (353, .iadd, 1, 0, 0, 0, 0), (354, .iaload, 1, 0, 0, 0, 0), (355, .invokevirtual 49, 3, 0, 57, 471, 2), (358, .aload_n 2, 1, 0, 0, 0, 0), (359, .aload_n 0, 1, 0, 0, 0, 0), (360, .iload_n 3, 1, 0, 0, 0, 0), (361, .iconst 1, 1, 0, 0, 0, 0), (362, .iadd, 1, 0, 0, 0, 0), (363, .iaload, 1, 0, 0, 0, 0), (364, .aload_n 0, 1, 0, 0, 0, 0), (365, .iload_n 3, 1, 0, 0, 0, 0), (366, .iconst 2, 1, 0, 0, 0, 0), (367, .iadd, 1, 0, 0, 0, 0), (368, .iaload, 1, 0, 0, 0, 0), (369, .invokevirtual 52, 3, 0, 109, 854, 2), (372, .if_icmp .eq 401, 3, 773, 0, 0, 0), (375, .iconst 0, 1, 0, 0, 0, 0), (376, .ireturn, 1, 0, 0, 0, 0), (377, .aload_n 1, 1, 0, 0, 0, 0), (378, .aload_n 0, 1, 0, 0, 0, 0), (379, .iload_n 3, 1, 0, 0, 0, 0), (380, .iconst 1, 1, 0, 0, 0, 0), (381, .iadd, 1, 0, 0, 0, 0), (382, .iaload, 1, 0, 0, 0, 0), (383, .aload_n 0, 1, 0, 0, 0, 0)]
def T_148_5 : List TE := [(384, .iload_n 3, 1, 0, 0, 0, 0), (385, .iconst 2, 1, 0, 0, 0, 0), (386, .iadd, 1, 0, 0, 0, 0), (387, .iaload, 1, 0, 0, 0, 0), (388, .invokevirtual 53, 3, 0, 58, 481, 2), (391, .aload_n 2, 1, 0, 0, 0, 0), (392, .aload_n 0, 1, 0, 0, 0, 0), (393, .iload_n 3, 1, 0, 0, 0, 0), (394, .iconst 1, 1, 0, 0, 0, 0), (395, .iadd, 1, 0, 0, 0, 0), (396, .iaload, 1, 0, 0, 0, 0), (397, .aload_n 0, 1, 0, 0, 0, 0), (398, .iload_n 3, 1, 0, 0, 0, 0), (399, .iconst 2, 1, 0, 0, 0, 0), (400, .iadd, 1, 0, 0, 0, 0), (401, .iaload, 1, 0, 0, 0, 0), (402, .invokevirtual 56, 3, 0, 111, 862, 2), (405, .if_icmp .eq 368, 3, 773, 0, 0, 0), (408, .iconst 0, 1, 0, 0, 0, 0), (409, .ireturn, 1, 0, 0, 0, 0), (410, .aload_n 1, 1, 0, 0, 0, 0), (411, .aload_n 0, 1, 0, 0, 0, 0), (412, .iload_n 3, 1, 0, 0, 0, 0), (413, .iconst 1, 1, 0, 0, 0, 0), (414, .iadd, 1, 0, 0, 0, 0), (415, .iaload, 1, 0, 0, 0, 0), (416, .invokevirtual 57, 3, 0, 59, 485, 1), (419, .aload_n 2, 1, 0, 0, 0, 0), (420, .aload_n 0, 1, 0, 0, 0, 0), (421, .iload_n 3, 1, 0, 0, 0, 0), (422, .iconst 1, 1, 0, 0, 0, 0), (423, .iadd, 1, 0, 0, 0, 0), (424, .iaload, 1, 0, 0, 0, 0), (425, .invokevirtual 60, 3, 0, 112, 870, 1), (428, .if_icmp .eq 345, 3, 773, 0, 0, 0), (431, .iconst 0, 1, 0, 0, 0, 0), (432, .ireturn, 1, 0, 0, 0, 0), (433, .aload_n 1, 1, 0, 0, 0, 0), (434, .aload_n 0, 1, 0, 0, 0, 0), (435, .iload_n 3, 1, 0, 0, 0, 0)]
def T_148_6 : List TE := [(436, .iconst 1, 1, 0, 0, 0, 0), (437, .iadd, 1, 0, 0, 0, 0), (438, .iaload, 1, 0, 0, 0, 0), (439, .aload_n 0, 1, 0, 0, 0, 0), (440, .iload_n 3, 1, 0, 0, 0, 0), (441, .iconst 2, 1, 0, 0, 0, 0), (442, .iadd, 1, 0, 0, 0, 0), (443, .iaload, 1, 0, 0, 0, 0), (444, .invokevirtual 61, 3, 0, 60, 493, 2), (447, .aload_n 2, 1, 0, 0, 0, 0), (448, .aload_n 0, 1, 0, 0, 0, 0), (449, .iload_n 3, 1, 0, 0, 0, 0), (450, .iconst 1, 1, 0, 0, 0, 0), (451, .iadd, 1, 0, 0, 0, 0), (452, .iaload, 1, 0, 0, 0, 0), (453, .aload_n 0, 1, 0, 0, 0, 0), (454, .iload_n 3, 1, 0, 0, 0, 0), (455, .iconst 2, 1, 0, 0, 0, 0), (456, .iadd, 1, 0, 0, 0, 0), (457, .iaload, 1, 0, 0, 0, 0), (458, .invokevirtual 64, 3, 0, 113, 874, 2), (461, .if_icmp .eq 312, 3, 773, 0, 0, 0), (464, .iconst 0, 1, 0, 0, 0, 0), (465, .ireturn, 1, 0, 0, 0, 0), (466, .aload_n 1, 1, 0, 0, 0, 0), (467, .aload_n 0, 1, 0, 0, 0, 0), (468, .iload_n 3, 1, 0, 0, 0, 0), (469, .iconst 1, 1, 0, 0, 0, 0), (470, .iadd, 1, 0, 0, 0, 0), (471, .iaload, 1, 0, 0, 0, 0), (472, .aload_n 0, 1, 0, 0, 0, 0), (473, .iload_n 3, 1, 0, 0, 0, 0), (474, .iconst 2, 1, 0, 0, 0, 0), (475, .iadd, 1, 0, 0, 0, 0), (476, .iaload, 1, 0, 0, 0, 0), (477, .invokevirtual 65, 3, 0, 61, 501, 2), (480, .aload_n 2, 1, 0, 0, 0, 0), (481, .aload_n 0, 1, 0, 0, 0, 0), (482, .iload_n 3, 1, 0, 0, 0, 0), (483, .iconst 1, 1, 0, 0, 0, 0)]
def T_148_7 : List TE := [(484, .iadd, 1, 0, 0, 0, 0), (485, .iaload, 1, 0, 0, 0, 0), (486, .aload_n 0, 1, 0, 0, 0, 0), (487, .iload_n 3, 1, 0, 0, 0, 0), (488, .iconst 2, 1, 0, 0, 0, 0), (489, .iadd, 1, 0, 0, 0, 0), (490, .iaload, 1, 0, 0, 0, 0), (491, .invokevirtual 68, 3, 0, 115, 882, 2), (494, .if_icmp .eq 279, 3, 773, 0, 0, 0), (497, .iconst 0, 1, 0, 0, 0, 0), (498, .ireturn, 1, 0, 0, 0, 0), (499, .aload_n 1, 1, 0, 0, 0, 0), (500, .aload_n 0, 1, 0, 0, 0, 0), (501, .iload_n 3, 1, 0, 0, 0, 0), (502, .iconst 1, 1, 0, 0, 0, 0), (503, .iadd, 1, 0, 0, 0, 0), (504, .iaload, 1, 0, 0, 0, 0), (505, .aload_n 0, 1, 0, 0, 0, 0), (506, .iload_n 3, 1, 0, 0, 0, 0), (507, .iconst 2, 1, 0, 0, 0, 0), (508, .iadd, 1, 0, 0, 0, 0), (509, .iaload, 1, 0, 0, 0, 0), (510, .aload_n 0, 1, 0, 0, 0, 0), (511, .iload_n 3, 1, 0, 0, 0, 0), (512, .iconst 3, 1, 0, 0, 0, 0), (513, .iadd, 1, 0, 0, 0, 0), (514, .iaload, 1, 0, 0, 0, 0), (515, .invokevirtual 69, 3, 0, 62, 514, 3), (518, .aload_n 2, 1, 0, 0, 0, 0), (519, .aload_n 0, 1, 0, 0, 0, 0), (520, .iload_n 3, 1, 0, 0, 0, 0), (521, .iconst 1, 1, 0, 0, 0, 0), (522, .iadd, 1, 0, 0, 0, 0), (523, .iaload, 1, 0, 0, 0, 0), (524, .aload_n 0, 1, 0, 0, 0, 0), (525, .iload_n 3, 1, 0, 0, 0, 0), (526, .iconst 2, 1, 0, 0, 0, 0), (527, .iadd, 1, 0, 0, 0, 0), (528, .iaload, 1, 0, 0, 0, 0), (529, .aload_n 0, 1, 0, 0, 0, 0)]
def T_148_8 : List TE := [(530, .iload_n 3, 1, 0, 0, 0, 0), (531, .iconst 3, 1, 0, 0, 0, 0), (532, .iadd, 1, 0, 0, 0, 0), (533, .iaload, 1, 0, 0, 0, 0), (534, .invokevirtual 73, 3, 0, 117, 894, 3), (537, .if_icmp .eq 236, 3, 773, 0, 0, 0), (540, .iconst 0, 1, 0, 0, 0, 0), (541, .ireturn, 1, 0, 0, 0, 0), (542, .aload_n 1, 1, 0, 0, 0, 0), (543, .aload_n 0, 1, 0, 0, 0, 0), (544, .iload_n 3, 1, 0, 0, 0, 0), (545, .iconst 1, 1, 0, 0, 0, 0), (546, .iadd, 1, 0, 0, 0, 0), (547, .iaload, 1, 0, 0, 0, 0), (548, .invokevirtual 74, 3, 0, 63, 550, 1), (551, .aload_n 2, 1, 0, 0, 0, 0), (552, .aload_n 0, 1, 0, 0, 0, 0), (553, .iload_n 3, 1, 0, 0, 0, 0), (554, .iconst 1, 1, 0, 0, 0, 0), (555, .iadd, 1, 0, 0, 0, 0), (556, .iaload, 1, 0, 0, 0, 0), (557, .invokevirtual 77, 3, 0, 120, 904, 1), (560, .if_icmp .eq 213, 3, 773, 0, 0, 0), (563, .iconst 0, 1, 0, 0, 0, 0), (564, .ireturn, 1, 0, 0, 0, 0), (565, .aload_n 1, 1, 0, 0, 0, 0), (566, .aload_n 0, 1, 0, 0, 0, 0), (567, .iload_n 3, 1, 0, 0, 0, 0), (568, .iconst 1, 1, 0, 0, 0, 0), (569, .iadd, 1, 0, 0, 0, 0), (570, .iaload, 1, 0, 0, 0, 0), (571, .aload_n 0, 1, 0, 0, 0, 0), (572, .iload_n 3, 1, 0, 0, 0, 0), (573, .iconst 2, 1, 0, 0, 0, 0), (574, .iadd, 1, 0, 0, 0, 0), (575, .iaload, 1, 0, 0, 0, 0), (576, .invokevirtual 78, 3, 0, 64, 566, 2), (579, .aload_n 2, 1, 0, 0, 0, 0), (580, .aload_n 0, 1, 0, 0, 0, 0), (581, .iload_n 3, 1, 0, 0, 0, 0)]
def T_148_9 : List TE := [(582, .iconst 1, 1, 0, 0, 0, 0), (583, .iadd, 1, 0, 0, 0, 0), (584, .iaload, 1, 0, 0, 0, 0), (585, .aload_n 0, 1, 0, 0, 0, 0), (586, .iload_n 3, 1, 0, 0, 0, 0), (587, .iconst 2, 1, 0, 0, 0, 0), (588, .iadd, 1, 0, 0, 0, 0), (589, .iaload, 1, 0, 0, 0, 0), (590, .invokevirtual 81, 3, 0, 124, 915, 2), (593, .if_icmp .eq 180, 3, 773, 0, 0, 0), (596, .iconst 0, 1, 0, 0, 0, 0), (597, .ireturn, 1, 0, 0, 0, 0), (598, .aload_n 1, 1, 0, 0, 0, 0), (599, .aload_n 0, 1, 0, 0, 0, 0), (600, .iload_n 3, 1, 0, 0, 0, 0), (601, .iconst 1, 1, 0, 0, 0, 0), (602, .iadd, 1, 0, 0, 0, 0), (603, .iaload, 1, 0, 0, 0, 0), (604, .invokevirtual 82, 3, 0, 65, 579, 1), (607, .aload_n 2, 1, 0, 0, 0, 0), (608, .aload_n 0, 1, 0, 0, 0, 0), (609, .iload_n 3, 1, 0, 0, 0, 0), (610, .iconst 1, 1, 0, 0, 0, 0), (611, .iadd, 1, 0, 0, 0, 0), (612, .iaload, 1, 0, 0, 0, 0), (613, .invokevirtual 85, 3, 0, 125, 930, 1), (616, .if_icmp .eq 157, 3, 773, 0, 0, 0), (619, .iconst 0, 1, 0, 0, 0, 0), (620, .ireturn, 1, 0, 0, 0, 0), (621, .aload_n 1, 1, 0, 0, 0, 0), (622, .invokevirtual 86, 3, 0, 66, 587, 0), (625, .aload_n 2, 1, 0, 0, 0, 0), (626, .invokevirtual 89, 3, 0, 126, 935, 0), (629, .if_icmp .eq 144, 3, 773, 0, 0, 0), (632, .iconst 0, 1, 0, 0, 0, 0), (633, .ireturn, 1, 0, 0, 0, 0), (634, .aload_n 1, 1, 0, 0, 0, 0), (635, .aload_n 0, 1, 0, 0, 0, 0), (636, .iload_n 3, 1, 0, 0, 0, 0), (637, .iconst 1, 1, 0, 0, 0, 0)]
def T_148_10 : List TE := [(638, .iadd, 1, 0, 0, 0, 0), (639, .iaload, 1, 0, 0, 0, 0), (640, .aload_n 0, 1, 0, 0, 0, 0), (641, .iload_n 3, 1, 0, 0, 0, 0), (642, .iconst 2, 1, 0, 0, 0, 0), (643, .iadd, 1, 0, 0, 0, 0), (644, .iaload, 1, 0, 0, 0, 0), (645, .invokevirtual 90, 3, 0, 67, 591, 2), (648, .aload_n 2, 1, 0, 0, 0, 0), (649, .aload_n 0, 1, 0, 0, 0, 0), (650, .iload_n 3, 1, 0, 0, 0, 0), (651, .iconst 1, 1, 0, 0, 0, 0), (652, .iadd, 1, 0, 0, 0, 0), (653, .iaload, 1, 0, 0, 0, 0), (654, .aload_n 0, 1, 0, 0, 0, 0), (655, .iload_n 3, 1, 0, 0, 0, 0), (656, .iconst 2, 1, 0, 0, 0, 0), (657, .iadd, 1, 0, 0, 0, 0), (658, .iaload, 1, 0, 0, 0, 0), (659, .invokevirtual 93, 3, 0, 128, 939, 2), (662, .if_icmp .eq 111, 3, 773, 0, 0, 0), (665, .iconst 0, 1, 0, 0, 0, 0), (666, .ireturn, 1, 0, 0, 0, 0), (667, .aload_n 1, 1, 0, 0, 0, 0), (668, .aload_n 0, 1, 0, 0, 0, 0), (669, .iload_n 3, 1, 0, 0, 0, 0), (670, .iconst 1, 1, 0, 0, 0, 0), (671, .iadd, 1, 0, 0, 0, 0), (672, .iaload, 1, 0, 0, 0, 0), (673, .aload_n 0, 1, 0, 0, 0, 0), (674, .iload_n 3, 1, 0, 0, 0, 0), (675, .iconst 2, 1, 0, 0, 0, 0), (676, .iadd, 1, 0, 0, 0, 0), (677, .iaload, 1, 0, 0, 0, 0), (678, .aload_n 0, 1, 0, 0, 0, 0), (679, .iload_n 3, 1, 0, 0, 0, 0), (680, .iconst 3, 1, 0, 0, 0, 0), (681, .iadd, 1, 0, 0, 0, 0), (682, .iaload, 1, 0, 0, 0, 0), (683, .invokevirtual 94, 3, 0, 68, 620, 3)]
def T_148_11 : List TE := [(686, .aload_n 2, 1, 0, 0, 0, 0), (687, .aload_n 0, 1, 0, 0, 0, 0), (688, .iload_n 3, 1, 0, 0, 0, 0), (689, .iconst 1, 1, 0, 0, 0, 0), (690, .iadd, 1, 0, 0, 0, 0), (691, .iaload, 1, 0, 0, 0, 0), (692, .aload_n 0, 1, 0, 0, 0, 0), (693, .iload_n 3, 1, 0, 0, 0, 0), (694, .iconst 2, 1, 0, 0, 0, 0), (695, .iadd, 1, 0, 0, 0, 0), (696, .iaload, 1, 0, 0, 0, 0), (697, .aload_n 0, 1, 0, 0, 0, 0), (698, .iload_n 3, 1, 0, 0, 0, 0), (699, .iconst 3, 1, 0, 0, 0, 0), (700, .iadd, 1, 0, 0, 0, 0), (701, .iaload, 1, 0, 0, 0, 0), (702, .invokevirtual 97, 3, 0, 130, 950, 3), (705, .if_icmp .eq 68, 3, 773, 0, 0, 0), (708, .iconst 0, 1, 0, 0, 0, 0), (709, .ireturn, 1, 0, 0, 0, 0), (710, .aload_n 1, 1, 0, 0, 0, 0), (711, .invokevirtual 98, 3, 0, 69, 641, 0), (714, .aload_n 2, 1, 0, 0, 0, 0), (715, .invokevirtual 101, 3, 0, 133, 963, 0), (718, .if_icmp .eq 55, 3, 773, 0, 0, 0), (721, .iconst 0, 1, 0, 0, 0, 0), (722, .ireturn, 1, 0, 0, 0, 0), (723, .aload_n 1, 1, 0, 0, 0, 0), (724, .invokevirtual 102, 3, 0, 70, 654, 0), (727, .aload_n 2, 1, 0, 0, 0, 0), (728, .invokevirtual 105, 3, 0, 134, 971, 0), (731, .if_icmp .eq 42, 3, 773, 0, 0, 0), (734, .iconst 0, 1, 0, 0, 0, 0), (735, .ireturn, 1, 0, 0, 0, 0), (736, .aload_n 1, 1, 0, 0, 0, 0), (737, .aload_n 0, 1, 0, 0, 0, 0), (738, .iload_n 3, 1, 0, 0, 0, 0), (739, .iconst 1, 1, 0, 0, 0, 0), (740, .iadd, 1, 0, 0, 0, 0), (741, .iaload, 1, 0, 0, 0, 0)]
def T_148_12 : List TE := [(742, .invokevirtual 106, 3, 0, 71, 658, 1), (745, .aload_n 2, 1, 0, 0, 0, 0), (746, .aload_n 0, 1, 0, 0, 0, 0), (747, .iload_n 3, 1, 0, 0, 0, 0), (748, .iconst 1, 1, 0, 0, 0, 0), (749, .iadd, 1, 0, 0, 0, 0), (750, .iaload, 1, 0, 0, 0, 0), (751, .invokevirtual 109, 3, 0, 136, 975, 1), (754, .if_icmp .eq 19, 3, 773, 0, 0, 0), (757, .iconst 0, 1, 0, 0, 0, 0), (758, .ireturn, 1, 0, 0, 0, 0), (759, .aload_n 1, 1, 0, 0, 0, 0), (760, .invokevirtual 110, 3, 0, 72, 662, 0), (763, .aload_n 2, 1, 0, 0, 0, 0), (764, .invokevirtual 114, 3, 0, 138, 983, 0), (767, .lcmp, 1, 0, 0, 0, 0), (768, .ifCond .eq 5, 3, 773, 0, 0, 0), (771, .iconst 0, 1, 0, 0, 0, 0), (772, .ireturn, 1, 0, 0, 0, 0), (773, .iinc 3 4, 3, 0, 0, 0, 0), (776, .goto (-758), 3, 18, 0, 0, 0), (779, .iconst 1, 1, 0, 0, 0, 0), (780, .ireturn, 1, 0, 0, 0, 0)]
def T_148 : List TE := T_148_0 ++ T_148_1 ++ T_148_2 ++ T_148_3 ++ T_148_4 ++ T_148_5 ++ T_148_6 ++ T_148_7 ++ T_148_8 ++ T_148_9 ++ T_148_10 ++ T_148_11 ++ T_148_12
def TBL : List (List TE) := [T_0, T_1, T_2, T_3, T_4, T_5, T_6, T_7, T_8, T_9, T_10, T_11, T_12, T_13, T_14, T_15, T_16, T_17, T_18, T_19, T_20, T_21, T_22, T_23, T_24, T_25, T_26, T_27, T_28, T_29, T_30, T_31, T_32, T_33, T_34, T_35, T_36, T_37, T_38, T_39, T_40, T_41, T_42, T_43, T_44, T_45, T_46, T_47, T_48, T_49, T_50, T_51, T_52, T_53, T_54, T_55, T_56, T_57, T_58, T_59, T_60, T_61, T_62, T_63, T_64, T_65, T_66, T_67, T_68, T_69, T_70, T_71, T_72, T_73, T_74, T_75, T_76, T_77, T_78, T_79, T_80, T_81, T_82, T_83, T_84, T_85, T_86, T_87, T_88, T_89, T_90, T_91, T_92, T_93, T_94, T_95, T_96, T_97, T_98, T_99, T_100, T_101, T_102, T_103, T_104, T_105, T_106, T_107, T_108, T_109, T_110, T_111, T_112, T_113, T_114, T_115, T_116, T_117, T_118, T_119, T_120, T_121, T_122, T_123, T_124, T_125, T_126, T_127, T_128, T_129, T_130, T_131, T_132, T_133, T_134, T_135, T_136, T_137, T_138, T_139, T_140, T_141, T_142, T_143, T_144, T_145, T_146, T_147, T_148]
def fetch (k pc : Nat) : Option TE := (TBL[k]?.getD []).find? (fun e => e.1 == pc)
def LAYP : List (Nat × Nat × Nat) := [(0, 0, 195), (0, 1, 197), (0, 2, 199), (1, 0, 82), (1, 1, 84), (1, 2, 86), (2, 0, 64), (2, 1, 66), (3, 0, 178), (3, 1, 180), (4, 0, 119), (4, 1, 121), (4, 2, 123), (4, 3, 125), (4, 4, 127), (4, 5, 129), (4, 6, 131), (4, 7, 133), (4, 8, 135), (5, 0, 150), (5, 1, 152), (5, 2, 154), (6, 0, 165), (6, 1, 167), (7, 0, 213), (7, 1, 215), (7, 2, 217), (7, 3, 219), (7, 4, 221), (7, 5, 223), (7, 6, 225), (7, 7, 227), (7, 8, 229), (7, 9, 231), (7, 10, 233), (8, 0, 711), (8, 1, 713), (8, 2, 715), (8, 3, 717), (8, 4, 719), (8, 5, 721), (8, 6, 723), (8, 7, 725), (8, 8, 727), (8, 9, 729), (8, 10, 731), (8, 11, 733), (8, 12, 735), (8, 13, 737), (8, 14, 739), (8, 15, 741), (8, 16, 743), (8, 17, 745), (8, 18, 747), (8, 19, 749), (8, 20, 751), (8, 21, 753), (8, 22, 755), (8, 23, 757), (8, 24, 759), (8, 25, 761), (8, 26, 763), (8, 27, 765), (8, 28, 767), (8, 29, 769), (8, 30, 771)]
def PAR : Nat := 69
def wat (p : Nat) (w : Jvm.Cond) : Bool := decide (lw_tbl[p]? = some w)
def jok (pc : Nat) (off : Int) (a : Nat) : Bool := decide ((pc : Int) + off = (a : Int))
def iok (k : Nat) (b : Nat) (z : Int) : Bool := decide (RK b < RK k) && decide (b < 149) && decide ((parseMethodDescriptor (YN b).desc).map (fun d => d.parameters.length) = some z.toNat) && decide (¬ b = LAWM)
def chkE (k : Nat) (e : TE) : Bool := match e with
  | (pc, i, len, a, b, c, z) => decide (decode (BC k) pc = .ok (i, len)) && (match i with
    | .getfield idx => len == 3 && ((a == 20 && ((b == 0 && wat c (.fieldLink (RC (CK k)) idx "java/lang/String" "coder" "B")) || (b == 1 && wat c (.fieldLink (RC (CK k)) idx "java/lang/String" "value" "[B")))) || (decide (b < NF a) && decide (a < 9) && wat c (.fieldLink (RC (CK k)) idx (TT a b).1 (TT a b).2.1 (TT a b).2.2.1)))
    | .getstatic idx => len == 3 && wat c (.fieldLink (RC (CK k)) idx "java/lang/String" "COMPACT_STRINGS" "Z")
    | .putfield idx => len == 3 && decide (b < NF a) && decide (a < 9) && wat c (.fieldLink (RC (CK k)) idx (TT a b).1 (TT a b).2.1 (TT a b).2.2.1) && (!(TT a b).2.2.2 || (decide ((TT a b).1 = RC (CK k)) && decide ((YN k).name = "<init>")))
    | .invokevirtual idx => len == 3 && a == 0 && iok k b z && wat c (.methodLink (RC (CK k)) idx (YN b)) && wat (PIn b) (.instanceMethod (YN b)) && wat (PSe b) (.selects (YN b).cls (YN b) (YN b))
    | .invokestatic idx => len == 3 && (a == 99 || (a == 6 && wat c (.methodLink (RC (CK k)) idx Lib.Math.max.name)) || (a == 7 && wat c (.methodLink (RC (CK k)) idx Lib.Math.min.name)) || (iok k b z && wat (PSt b) (.static (YN b)) && ((a == 1 && wat c (.methodLink (RC (CK k)) idx (YN b))) || (a == 2 && decide (NWL[c]? = some (.methodLinkNest (RC (CK k)) idx (YN b) "MirrorClerks"))))))
    | .invokespecial idx => len == 3 && ((a == 5 && wat c (.methodLink (RC (CK k)) idx objectInit)) || (iok k b z && decide ((YN b).name = "<init>") && decide (RT b = none) && wat (PIn b) (.instanceMethod (YN b)) && ((a == 3 && wat c (.methodLink (RC (CK k)) idx (YN b))) || (a == 4 && decide (NWL[c]? = some (.methodLinkNest (RC (CK k)) idx (YN b) "MirrorClerks"))))))
    | .ldc idx => len == 2 && ((a == 7 && idx == 39 && CK k == 2) || (a != 7 && wat c (.constant (RC (CK k)) idx (Int32.ofInt z))))
    | .ldc_w idx => len == 3 && wat c (.constant (RC (CK k)) idx (Int32.ofInt z))
    | .ldc2_w idx => len == 3 && wat c (.constantLong (RC (CK k)) idx (Int64.ofInt z))
    | .new idx => len == 3 && decide (a < 9) && wat c (.classLink (RC (CK k)) idx (RC a)) && wat b (.instantiable (RC a) (NF a)) && wat z.toNat (.initialized (RC a))
    | .newarray t => len == 2 && decide (t = .int)
    | .ifCond _ off => len == 3 && jok pc off a
    | .if_icmp _ off => len == 3 && jok pc off a
    | .goto off => len == 3 && jok pc off a
    | .bipush _ => len == 2
    | .sipush _ => len == 3
    | .iload _ => len == 2
    | .lload _ => len == 2
    | .aload _ => len == 2
    | .istore _ => len == 2
    | .lstore _ => len == 2
    | .astore _ => len == 2
    | .iinc _ _ => len == 3
    | .tableswitch .. => true
    | .lookupswitch _ ps => decide ((ps.toList.zip (ps.toList.drop 1)).all (fun (a, next) => a.1 < next.1) = true)
    | _ => len == 1)
def chkM (k : Nat) : Bool := wat (PCo k) (.code (YN k) (BC k) (NL k) (RT k)) && plainName (YN k).cls && decide ((YN k).cls = RC (CK k)) && decide ((YN k).cls ≠ "java/lang/invoke/MethodHandle") && decide ((YN k).cls ≠ "java/lang/invoke/VarHandle") && decide (NL k ≤ 11) && wat (PIi k) (.initialized (YN k).cls) && decide (0 < RK k)
def GW : List Jvm.Cond := lw_tbl.filter goodWord
end
section
theorem wat_in {p : Nat} {w : Jvm.Cond} (h : wat p w = true) (hg : goodWord w = true) : w ∈ GW := List.mem_filter.mpr ⟨List.mem_of_getElem? (of_decide_eq_true h), hg⟩
theorem gw_good : ∀ w ∈ GW, goodWord w = true := fun w h => (List.mem_filter.mp h).2
theorem gw_in : ∀ w ∈ GW, w ∈ lw_tbl := fun w h => (List.mem_filter.mp h).1
set_option maxRecDepth 100000 in
theorem ck_lay : LAYP.all (fun q => wat q.2.2 (u_lay (RC q.1) (TT q.1) q.2.1)) = true := by decide +kernel
set_option maxRecDepth 100000 in
theorem ck_lay2 : (List.range 9).all (fun c => (List.range (NF c)).all (fun j => LAYP.any (fun q => q.1 == c && q.2.1 == j))) = true := by decide +kernel
set_option maxRecDepth 100000 in
theorem ck_max : (wat 302 (.static Lib.Math.max.name) && wat 41 (.initialized "java/lang/Math") && wat 303 (.code Lib.Math.max.name Lib.Math.max.code 2 (some .int))) = true := by decide +kernel
set_option maxRecDepth 100000 in
theorem ck_min : (wat 305 (.static Lib.Math.min.name) && wat 41 (.initialized "java/lang/Math") && wat 306 (.code Lib.Math.min.name Lib.Math.min.code 2 (some .int))) = true := by decide +kernel
set_option maxRecDepth 100000 in
theorem ck_obj : (wat OPO (.code objectInit ⟨#[0xb1]⟩ 1 none) && wat OPI (.instanceMethod objectInit) && wat PAR (.arrayClass .int)) = true := by decide +kernel
set_option maxRecDepth 100000 in
theorem ck_nest : NWP.all (fun q => match NWL[q.1]? with | some w => wat q.2 w | none => false) = true := by decide +kernel
set_option maxRecDepth 100000 in
theorem ckm_0 : ((List.range 20).drop 0).all chkM = true := by decide +kernel
set_option maxRecDepth 100000 in
theorem ckm_1 : ((List.range 40).drop 20).all chkM = true := by decide +kernel
set_option maxRecDepth 100000 in
theorem ckm_2 : ((List.range 60).drop 40).all chkM = true := by decide +kernel
set_option maxRecDepth 100000 in
theorem ckm_3 : ((List.range 80).drop 60).all chkM = true := by decide +kernel
set_option maxRecDepth 100000 in
theorem ckm_4 : ((List.range 100).drop 80).all chkM = true := by decide +kernel
set_option maxRecDepth 100000 in
theorem ckm_5 : ((List.range 120).drop 100).all chkM = true := by decide +kernel
set_option maxRecDepth 100000 in
theorem ckm_6 : ((List.range 140).drop 120).all chkM = true := by decide +kernel
set_option maxRecDepth 100000 in
theorem ckm_7 : ((List.range 148).drop 140).all chkM = true := by decide +kernel
set_option maxRecDepth 100000 in
theorem ck_0_0 : T_0_0.all (chkE 0) = true := by decide +kernel
set_option maxRecDepth 100000 in
theorem ck_1_0 : T_1_0.all (chkE 1) = true := by decide +kernel
set_option maxRecDepth 100000 in
theorem ck_2_0 : T_2_0.all (chkE 2) = true := by decide +kernel
set_option maxRecDepth 100000 in
theorem ck_2_1 : T_2_1.all (chkE 2) = true := by decide +kernel
set_option maxRecDepth 100000 in
theorem ck_3_0 : T_3_0.all (chkE 3) = true := by decide +kernel
set_option maxRecDepth 100000 in
theorem ck_4_0 : T_4_0.all (chkE 4) = true := by decide +kernel
set_option maxRecDepth 100000 in
theorem ck_5_0 : T_5_0.all (chkE 5) = true := by decide +kernel
set_option maxRecDepth 100000 in
theorem ck_6_0 : T_6_0.all (chkE 6) = true := by decide +kernel
set_option maxRecDepth 100000 in
theorem ck_7_0 : T_7_0.all (chkE 7) = true := by decide +kernel
set_option maxRecDepth 100000 in
theorem ck_8_0 : T_8_0.all (chkE 8) = true := by decide +kernel
set_option maxRecDepth 100000 in
theorem ck_9_0 : T_9_0.all (chkE 9) = true := by decide +kernel
set_option maxRecDepth 100000 in
theorem ck_10_0 : T_10_0.all (chkE 10) = true := by decide +kernel
set_option maxRecDepth 100000 in
theorem ck_11_0 : T_11_0.all (chkE 11) = true := by decide +kernel
set_option maxRecDepth 100000 in
theorem ck_11_1 : T_11_1.all (chkE 11) = true := by decide +kernel
set_option maxRecDepth 100000 in
theorem ck_12_0 : T_12_0.all (chkE 12) = true := by decide +kernel
set_option maxRecDepth 100000 in
theorem ck_13_0 : T_13_0.all (chkE 13) = true := by decide +kernel
set_option maxRecDepth 100000 in
theorem ck_14_0 : T_14_0.all (chkE 14) = true := by decide +kernel
set_option maxRecDepth 100000 in
theorem ck_15_0 : T_15_0.all (chkE 15) = true := by decide +kernel
set_option maxRecDepth 100000 in
theorem ck_16_0 : T_16_0.all (chkE 16) = true := by decide +kernel
set_option maxRecDepth 100000 in
theorem ck_17_0 : T_17_0.all (chkE 17) = true := by decide +kernel
set_option maxRecDepth 100000 in
theorem ck_17_1 : T_17_1.all (chkE 17) = true := by decide +kernel
set_option maxRecDepth 100000 in
theorem ck_18_0 : T_18_0.all (chkE 18) = true := by decide +kernel
set_option maxRecDepth 100000 in
theorem ck_19_0 : T_19_0.all (chkE 19) = true := by decide +kernel
set_option maxRecDepth 100000 in
theorem ck_20_0 : T_20_0.all (chkE 20) = true := by decide +kernel
set_option maxRecDepth 100000 in
theorem ck_21_0 : T_21_0.all (chkE 21) = true := by decide +kernel
set_option maxRecDepth 100000 in
theorem ck_22_0 : T_22_0.all (chkE 22) = true := by decide +kernel
set_option maxRecDepth 100000 in
theorem ck_23_0 : T_23_0.all (chkE 23) = true := by decide +kernel
set_option maxRecDepth 100000 in
theorem ck_24_0 : T_24_0.all (chkE 24) = true := by decide +kernel
set_option maxRecDepth 100000 in
theorem ck_25_0 : T_25_0.all (chkE 25) = true := by decide +kernel
set_option maxRecDepth 100000 in
theorem ck_25_1 : T_25_1.all (chkE 25) = true := by decide +kernel
set_option maxRecDepth 100000 in
theorem ck_26_0 : T_26_0.all (chkE 26) = true := by decide +kernel
set_option maxRecDepth 100000 in
theorem ck_27_0 : T_27_0.all (chkE 27) = true := by decide +kernel
set_option maxRecDepth 100000 in
theorem ck_28_0 : T_28_0.all (chkE 28) = true := by decide +kernel
set_option maxRecDepth 100000 in
theorem ck_28_1 : T_28_1.all (chkE 28) = true := by decide +kernel
set_option maxRecDepth 100000 in
theorem ck_29_0 : T_29_0.all (chkE 29) = true := by decide +kernel
set_option maxRecDepth 100000 in
theorem ck_30_0 : T_30_0.all (chkE 30) = true := by decide +kernel
set_option maxRecDepth 100000 in
theorem ck_31_0 : T_31_0.all (chkE 31) = true := by decide +kernel
set_option maxRecDepth 100000 in
theorem ck_32_0 : T_32_0.all (chkE 32) = true := by decide +kernel
set_option maxRecDepth 100000 in
theorem ck_33_0 : T_33_0.all (chkE 33) = true := by decide +kernel
set_option maxRecDepth 100000 in
theorem ck_34_0 : T_34_0.all (chkE 34) = true := by decide +kernel
set_option maxRecDepth 100000 in
theorem ck_35_0 : T_35_0.all (chkE 35) = true := by decide +kernel
set_option maxRecDepth 100000 in
theorem ck_36_0 : T_36_0.all (chkE 36) = true := by decide +kernel
set_option maxRecDepth 100000 in
theorem ck_37_0 : T_37_0.all (chkE 37) = true := by decide +kernel
set_option maxRecDepth 100000 in
theorem ck_38_0 : T_38_0.all (chkE 38) = true := by decide +kernel
set_option maxRecDepth 100000 in
theorem ck_38_1 : T_38_1.all (chkE 38) = true := by decide +kernel
set_option maxRecDepth 100000 in
theorem ck_39_0 : T_39_0.all (chkE 39) = true := by decide +kernel
set_option maxRecDepth 100000 in
theorem ck_40_0 : T_40_0.all (chkE 40) = true := by decide +kernel
set_option maxRecDepth 100000 in
theorem ck_41_0 : T_41_0.all (chkE 41) = true := by decide +kernel
set_option maxRecDepth 100000 in
theorem ck_42_0 : T_42_0.all (chkE 42) = true := by decide +kernel
set_option maxRecDepth 100000 in
theorem ck_43_0 : T_43_0.all (chkE 43) = true := by decide +kernel
set_option maxRecDepth 100000 in
theorem ck_44_0 : T_44_0.all (chkE 44) = true := by decide +kernel
set_option maxRecDepth 100000 in
theorem ck_45_0 : T_45_0.all (chkE 45) = true := by decide +kernel
set_option maxRecDepth 100000 in
theorem ck_46_0 : T_46_0.all (chkE 46) = true := by decide +kernel
set_option maxRecDepth 100000 in
theorem ck_47_0 : T_47_0.all (chkE 47) = true := by decide +kernel
set_option maxRecDepth 100000 in
theorem ck_47_1 : T_47_1.all (chkE 47) = true := by decide +kernel
set_option maxRecDepth 100000 in
theorem ck_48_0 : T_48_0.all (chkE 48) = true := by decide +kernel
set_option maxRecDepth 100000 in
theorem ck_48_1 : T_48_1.all (chkE 48) = true := by decide +kernel
set_option maxRecDepth 100000 in
theorem ck_49_0 : T_49_0.all (chkE 49) = true := by decide +kernel
set_option maxRecDepth 100000 in
theorem ck_50_0 : T_50_0.all (chkE 50) = true := by decide +kernel
set_option maxRecDepth 100000 in
theorem ck_51_0 : T_51_0.all (chkE 51) = true := by decide +kernel
set_option maxRecDepth 100000 in
theorem ck_52_0 : T_52_0.all (chkE 52) = true := by decide +kernel
set_option maxRecDepth 100000 in
theorem ck_53_0 : T_53_0.all (chkE 53) = true := by decide +kernel
set_option maxRecDepth 100000 in
theorem ck_54_0 : T_54_0.all (chkE 54) = true := by decide +kernel
set_option maxRecDepth 100000 in
theorem ck_55_0 : T_55_0.all (chkE 55) = true := by decide +kernel
set_option maxRecDepth 100000 in
theorem ck_56_0 : T_56_0.all (chkE 56) = true := by decide +kernel
set_option maxRecDepth 100000 in
theorem ck_57_0 : T_57_0.all (chkE 57) = true := by decide +kernel
set_option maxRecDepth 100000 in
theorem ck_58_0 : T_58_0.all (chkE 58) = true := by decide +kernel
set_option maxRecDepth 100000 in
theorem ck_59_0 : T_59_0.all (chkE 59) = true := by decide +kernel
set_option maxRecDepth 100000 in
theorem ck_60_0 : T_60_0.all (chkE 60) = true := by decide +kernel
set_option maxRecDepth 100000 in
theorem ck_61_0 : T_61_0.all (chkE 61) = true := by decide +kernel
set_option maxRecDepth 100000 in
theorem ck_61_1 : T_61_1.all (chkE 61) = true := by decide +kernel
set_option maxRecDepth 100000 in
theorem ck_62_0 : T_62_0.all (chkE 62) = true := by decide +kernel
set_option maxRecDepth 100000 in
theorem ck_62_1 : T_62_1.all (chkE 62) = true := by decide +kernel
set_option maxRecDepth 100000 in
theorem ck_63_0 : T_63_0.all (chkE 63) = true := by decide +kernel
set_option maxRecDepth 100000 in
theorem ck_63_1 : T_63_1.all (chkE 63) = true := by decide +kernel
set_option maxRecDepth 100000 in
theorem ck_64_0 : T_64_0.all (chkE 64) = true := by decide +kernel
set_option maxRecDepth 100000 in
theorem ck_64_1 : T_64_1.all (chkE 64) = true := by decide +kernel
set_option maxRecDepth 100000 in
theorem ck_65_0 : T_65_0.all (chkE 65) = true := by decide +kernel
set_option maxRecDepth 100000 in
theorem ck_66_0 : T_66_0.all (chkE 66) = true := by decide +kernel
set_option maxRecDepth 100000 in
theorem ck_67_0 : T_67_0.all (chkE 67) = true := by decide +kernel
set_option maxRecDepth 100000 in
theorem ck_68_0 : T_68_0.all (chkE 68) = true := by decide +kernel
set_option maxRecDepth 100000 in
theorem ck_68_1 : T_68_1.all (chkE 68) = true := by decide +kernel
set_option maxRecDepth 100000 in
theorem ck_69_0 : T_69_0.all (chkE 69) = true := by decide +kernel
set_option maxRecDepth 100000 in
theorem ck_70_0 : T_70_0.all (chkE 70) = true := by decide +kernel
set_option maxRecDepth 100000 in
theorem ck_71_0 : T_71_0.all (chkE 71) = true := by decide +kernel
set_option maxRecDepth 100000 in
theorem ck_71_1 : T_71_1.all (chkE 71) = true := by decide +kernel
set_option maxRecDepth 100000 in
theorem ck_72_0 : T_72_0.all (chkE 72) = true := by decide +kernel
set_option maxRecDepth 100000 in
theorem ck_72_1 : T_72_1.all (chkE 72) = true := by decide +kernel
set_option maxRecDepth 100000 in
theorem ck_72_2 : T_72_2.all (chkE 72) = true := by decide +kernel
set_option maxRecDepth 100000 in
theorem ck_72_3 : T_72_3.all (chkE 72) = true := by decide +kernel
set_option maxRecDepth 100000 in
theorem ck_72_4 : T_72_4.all (chkE 72) = true := by decide +kernel
set_option maxRecDepth 100000 in
theorem ck_73_0 : T_73_0.all (chkE 73) = true := by decide +kernel
set_option maxRecDepth 100000 in
theorem ck_74_0 : T_74_0.all (chkE 74) = true := by decide +kernel
set_option maxRecDepth 100000 in
theorem ck_75_0 : T_75_0.all (chkE 75) = true := by decide +kernel
set_option maxRecDepth 100000 in
theorem ck_76_0 : T_76_0.all (chkE 76) = true := by decide +kernel
set_option maxRecDepth 100000 in
theorem ck_76_1 : T_76_1.all (chkE 76) = true := by decide +kernel
set_option maxRecDepth 100000 in
theorem ck_77_0 : T_77_0.all (chkE 77) = true := by decide +kernel
set_option maxRecDepth 100000 in
theorem ck_78_0 : T_78_0.all (chkE 78) = true := by decide +kernel
end
section
set_option maxRecDepth 100000 in
theorem ck_79_0 : T_79_0.all (chkE 79) = true := by decide +kernel
set_option maxRecDepth 100000 in
theorem ck_80_0 : T_80_0.all (chkE 80) = true := by decide +kernel
set_option maxRecDepth 100000 in
theorem ck_81_0 : T_81_0.all (chkE 81) = true := by decide +kernel
set_option maxRecDepth 100000 in
theorem ck_82_0 : T_82_0.all (chkE 82) = true := by decide +kernel
set_option maxRecDepth 100000 in
theorem ck_83_0 : T_83_0.all (chkE 83) = true := by decide +kernel
set_option maxRecDepth 100000 in
theorem ck_84_0 : T_84_0.all (chkE 84) = true := by decide +kernel
set_option maxRecDepth 100000 in
theorem ck_85_0 : T_85_0.all (chkE 85) = true := by decide +kernel
set_option maxRecDepth 100000 in
theorem ck_85_1 : T_85_1.all (chkE 85) = true := by decide +kernel
set_option maxRecDepth 100000 in
theorem ck_86_0 : T_86_0.all (chkE 86) = true := by decide +kernel
set_option maxRecDepth 100000 in
theorem ck_87_0 : T_87_0.all (chkE 87) = true := by decide +kernel
set_option maxRecDepth 100000 in
theorem ck_88_0 : T_88_0.all (chkE 88) = true := by decide +kernel
set_option maxRecDepth 100000 in
theorem ck_89_0 : T_89_0.all (chkE 89) = true := by decide +kernel
set_option maxRecDepth 100000 in
theorem ck_90_0 : T_90_0.all (chkE 90) = true := by decide +kernel
set_option maxRecDepth 100000 in
theorem ck_90_1 : T_90_1.all (chkE 90) = true := by decide +kernel
set_option maxRecDepth 100000 in
theorem ck_91_0 : T_91_0.all (chkE 91) = true := by decide +kernel
set_option maxRecDepth 100000 in
theorem ck_92_0 : T_92_0.all (chkE 92) = true := by decide +kernel
set_option maxRecDepth 100000 in
theorem ck_93_0 : T_93_0.all (chkE 93) = true := by decide +kernel
set_option maxRecDepth 100000 in
theorem ck_94_0 : T_94_0.all (chkE 94) = true := by decide +kernel
set_option maxRecDepth 100000 in
theorem ck_94_1 : T_94_1.all (chkE 94) = true := by decide +kernel
set_option maxRecDepth 100000 in
theorem ck_95_0 : T_95_0.all (chkE 95) = true := by decide +kernel
set_option maxRecDepth 100000 in
theorem ck_96_0 : T_96_0.all (chkE 96) = true := by decide +kernel
set_option maxRecDepth 100000 in
theorem ck_97_0 : T_97_0.all (chkE 97) = true := by decide +kernel
set_option maxRecDepth 100000 in
theorem ck_97_1 : T_97_1.all (chkE 97) = true := by decide +kernel
set_option maxRecDepth 100000 in
theorem ck_98_0 : T_98_0.all (chkE 98) = true := by decide +kernel
set_option maxRecDepth 100000 in
theorem ck_99_0 : T_99_0.all (chkE 99) = true := by decide +kernel
set_option maxRecDepth 100000 in
theorem ck_99_1 : T_99_1.all (chkE 99) = true := by decide +kernel
set_option maxRecDepth 100000 in
theorem ck_99_2 : T_99_2.all (chkE 99) = true := by decide +kernel
set_option maxRecDepth 100000 in
theorem ck_100_0 : T_100_0.all (chkE 100) = true := by decide +kernel
set_option maxRecDepth 100000 in
theorem ck_101_0 : T_101_0.all (chkE 101) = true := by decide +kernel
set_option maxRecDepth 100000 in
theorem ck_102_0 : T_102_0.all (chkE 102) = true := by decide +kernel
set_option maxRecDepth 100000 in
theorem ck_103_0 : T_103_0.all (chkE 103) = true := by decide +kernel
set_option maxRecDepth 100000 in
theorem ck_104_0 : T_104_0.all (chkE 104) = true := by decide +kernel
set_option maxRecDepth 100000 in
theorem ck_104_1 : T_104_1.all (chkE 104) = true := by decide +kernel
set_option maxRecDepth 100000 in
theorem ck_104_2 : T_104_2.all (chkE 104) = true := by decide +kernel
set_option maxRecDepth 100000 in
theorem ck_105_0 : T_105_0.all (chkE 105) = true := by decide +kernel
set_option maxRecDepth 100000 in
theorem ck_106_0 : T_106_0.all (chkE 106) = true := by decide +kernel
set_option maxRecDepth 100000 in
theorem ck_106_1 : T_106_1.all (chkE 106) = true := by decide +kernel
set_option maxRecDepth 100000 in
theorem ck_107_0 : T_107_0.all (chkE 107) = true := by decide +kernel
set_option maxRecDepth 100000 in
theorem ck_108_0 : T_108_0.all (chkE 108) = true := by decide +kernel
set_option maxRecDepth 100000 in
theorem ck_108_1 : T_108_1.all (chkE 108) = true := by decide +kernel
set_option maxRecDepth 100000 in
theorem ck_109_0 : T_109_0.all (chkE 109) = true := by decide +kernel
set_option maxRecDepth 100000 in
theorem ck_110_0 : T_110_0.all (chkE 110) = true := by decide +kernel
set_option maxRecDepth 100000 in
theorem ck_110_1 : T_110_1.all (chkE 110) = true := by decide +kernel
set_option maxRecDepth 100000 in
theorem ck_111_0 : T_111_0.all (chkE 111) = true := by decide +kernel
set_option maxRecDepth 100000 in
theorem ck_112_0 : T_112_0.all (chkE 112) = true := by decide +kernel
set_option maxRecDepth 100000 in
theorem ck_112_1 : T_112_1.all (chkE 112) = true := by decide +kernel
set_option maxRecDepth 100000 in
theorem ck_113_0 : T_113_0.all (chkE 113) = true := by decide +kernel
set_option maxRecDepth 100000 in
theorem ck_114_0 : T_114_0.all (chkE 114) = true := by decide +kernel
set_option maxRecDepth 100000 in
theorem ck_115_0 : T_115_0.all (chkE 115) = true := by decide +kernel
set_option maxRecDepth 100000 in
theorem ck_115_1 : T_115_1.all (chkE 115) = true := by decide +kernel
set_option maxRecDepth 100000 in
theorem ck_116_0 : T_116_0.all (chkE 116) = true := by decide +kernel
set_option maxRecDepth 100000 in
theorem ck_116_1 : T_116_1.all (chkE 116) = true := by decide +kernel
set_option maxRecDepth 100000 in
theorem ck_116_2 : T_116_2.all (chkE 116) = true := by decide +kernel
set_option maxRecDepth 100000 in
theorem ck_116_3 : T_116_3.all (chkE 116) = true := by decide +kernel
set_option maxRecDepth 100000 in
theorem ck_117_0 : T_117_0.all (chkE 117) = true := by decide +kernel
set_option maxRecDepth 100000 in
theorem ck_117_1 : T_117_1.all (chkE 117) = true := by decide +kernel
set_option maxRecDepth 100000 in
theorem ck_118_0 : T_118_0.all (chkE 118) = true := by decide +kernel
set_option maxRecDepth 100000 in
theorem ck_119_0 : T_119_0.all (chkE 119) = true := by decide +kernel
set_option maxRecDepth 100000 in
theorem ck_119_1 : T_119_1.all (chkE 119) = true := by decide +kernel
set_option maxRecDepth 100000 in
theorem ck_120_0 : T_120_0.all (chkE 120) = true := by decide +kernel
set_option maxRecDepth 100000 in
theorem ck_121_0 : T_121_0.all (chkE 121) = true := by decide +kernel
set_option maxRecDepth 100000 in
theorem ck_122_0 : T_122_0.all (chkE 122) = true := by decide +kernel
set_option maxRecDepth 100000 in
theorem ck_123_0 : T_123_0.all (chkE 123) = true := by decide +kernel
set_option maxRecDepth 100000 in
theorem ck_123_1 : T_123_1.all (chkE 123) = true := by decide +kernel
set_option maxRecDepth 100000 in
theorem ck_124_0 : T_124_0.all (chkE 124) = true := by decide +kernel
set_option maxRecDepth 100000 in
theorem ck_124_1 : T_124_1.all (chkE 124) = true := by decide +kernel
set_option maxRecDepth 100000 in
theorem ck_125_0 : T_125_0.all (chkE 125) = true := by decide +kernel
set_option maxRecDepth 100000 in
theorem ck_126_0 : T_126_0.all (chkE 126) = true := by decide +kernel
set_option maxRecDepth 100000 in
theorem ck_127_0 : T_127_0.all (chkE 127) = true := by decide +kernel
set_option maxRecDepth 100000 in
theorem ck_127_1 : T_127_1.all (chkE 127) = true := by decide +kernel
set_option maxRecDepth 100000 in
theorem ck_127_2 : T_127_2.all (chkE 127) = true := by decide +kernel
set_option maxRecDepth 100000 in
theorem ck_127_3 : T_127_3.all (chkE 127) = true := by decide +kernel
set_option maxRecDepth 100000 in
theorem ck_128_0 : T_128_0.all (chkE 128) = true := by decide +kernel
set_option maxRecDepth 100000 in
theorem ck_129_0 : T_129_0.all (chkE 129) = true := by decide +kernel
set_option maxRecDepth 100000 in
theorem ck_130_0 : T_130_0.all (chkE 130) = true := by decide +kernel
set_option maxRecDepth 100000 in
theorem ck_130_1 : T_130_1.all (chkE 130) = true := by decide +kernel
set_option maxRecDepth 100000 in
theorem ck_130_2 : T_130_2.all (chkE 130) = true := by decide +kernel
set_option maxRecDepth 100000 in
theorem ck_131_0 : T_131_0.all (chkE 131) = true := by decide +kernel
set_option maxRecDepth 100000 in
theorem ck_132_0 : T_132_0.all (chkE 132) = true := by decide +kernel
set_option maxRecDepth 100000 in
theorem ck_133_0 : T_133_0.all (chkE 133) = true := by decide +kernel
set_option maxRecDepth 100000 in
theorem ck_133_1 : T_133_1.all (chkE 133) = true := by decide +kernel
set_option maxRecDepth 100000 in
theorem ck_134_0 : T_134_0.all (chkE 134) = true := by decide +kernel
set_option maxRecDepth 100000 in
theorem ck_134_1 : T_134_1.all (chkE 134) = true := by decide +kernel
set_option maxRecDepth 100000 in
theorem ck_135_0 : T_135_0.all (chkE 135) = true := by decide +kernel
set_option maxRecDepth 100000 in
theorem ck_136_0 : T_136_0.all (chkE 136) = true := by decide +kernel
set_option maxRecDepth 100000 in
theorem ck_137_0 : T_137_0.all (chkE 137) = true := by decide +kernel
set_option maxRecDepth 100000 in
theorem ck_138_0 : T_138_0.all (chkE 138) = true := by decide +kernel
set_option maxRecDepth 100000 in
theorem ck_138_1 : T_138_1.all (chkE 138) = true := by decide +kernel
set_option maxRecDepth 100000 in
theorem ck_138_2 : T_138_2.all (chkE 138) = true := by decide +kernel
set_option maxRecDepth 100000 in
theorem ck_138_3 : T_138_3.all (chkE 138) = true := by decide +kernel
set_option maxRecDepth 100000 in
theorem ck_139_0 : T_139_0.all (chkE 139) = true := by decide +kernel
set_option maxRecDepth 100000 in
theorem ck_139_1 : T_139_1.all (chkE 139) = true := by decide +kernel
set_option maxRecDepth 100000 in
theorem ck_140_0 : T_140_0.all (chkE 140) = true := by decide +kernel
set_option maxRecDepth 100000 in
theorem ck_141_0 : T_141_0.all (chkE 141) = true := by decide +kernel
set_option maxRecDepth 100000 in
theorem ck_142_0 : T_142_0.all (chkE 142) = true := by decide +kernel
set_option maxRecDepth 100000 in
theorem ck_143_0 : T_143_0.all (chkE 143) = true := by decide +kernel
set_option maxRecDepth 100000 in
theorem ck_144_0 : T_144_0.all (chkE 144) = true := by decide +kernel
set_option maxRecDepth 100000 in
theorem ck_145_0 : T_145_0.all (chkE 145) = true := by decide +kernel
set_option maxRecDepth 100000 in
theorem ck_146_0 : T_146_0.all (chkE 146) = true := by decide +kernel
set_option maxRecDepth 100000 in
theorem ck_147_0 : T_147_0.all (chkE 147) = true := by decide +kernel
set_option maxRecDepth 100000 in
theorem ck_148_0 : T_148_0.all (chkE 148) = true := by decide +kernel
set_option maxRecDepth 100000 in
theorem ck_148_1 : T_148_1.all (chkE 148) = true := by decide +kernel
set_option maxRecDepth 100000 in
theorem ck_148_2 : T_148_2.all (chkE 148) = true := by decide +kernel
set_option maxRecDepth 100000 in
theorem ck_148_3 : T_148_3.all (chkE 148) = true := by decide +kernel
set_option maxRecDepth 100000 in
theorem ck_148_4 : T_148_4.all (chkE 148) = true := by decide +kernel
set_option maxRecDepth 100000 in
theorem ck_148_5 : T_148_5.all (chkE 148) = true := by decide +kernel
set_option maxRecDepth 100000 in
theorem ck_148_6 : T_148_6.all (chkE 148) = true := by decide +kernel
set_option maxRecDepth 100000 in
theorem ck_148_7 : T_148_7.all (chkE 148) = true := by decide +kernel
set_option maxRecDepth 100000 in
theorem ck_148_8 : T_148_8.all (chkE 148) = true := by decide +kernel
set_option maxRecDepth 100000 in
theorem ck_148_9 : T_148_9.all (chkE 148) = true := by decide +kernel
set_option maxRecDepth 100000 in
theorem ck_148_10 : T_148_10.all (chkE 148) = true := by decide +kernel
set_option maxRecDepth 100000 in
theorem ck_148_11 : T_148_11.all (chkE 148) = true := by decide +kernel
set_option maxRecDepth 100000 in
theorem ck_148_12 : T_148_12.all (chkE 148) = true := by decide +kernel
theorem ck_0 : T_0.all (chkE 0) = true := by
  simp only [T_0, List.all_append, Bool.and_eq_true]
  exact ck_0_0
theorem ck_1 : T_1.all (chkE 1) = true := by
  simp only [T_1, List.all_append, Bool.and_eq_true]
  exact ck_1_0
theorem ck_2 : T_2.all (chkE 2) = true := by
  simp only [T_2, List.all_append, Bool.and_eq_true]
  exact ⟨ck_2_0, ck_2_1⟩
theorem ck_3 : T_3.all (chkE 3) = true := by
  simp only [T_3, List.all_append, Bool.and_eq_true]
  exact ck_3_0
theorem ck_4 : T_4.all (chkE 4) = true := by
  simp only [T_4, List.all_append, Bool.and_eq_true]
  exact ck_4_0
theorem ck_5 : T_5.all (chkE 5) = true := by
  simp only [T_5, List.all_append, Bool.and_eq_true]
  exact ck_5_0
theorem ck_6 : T_6.all (chkE 6) = true := by
  simp only [T_6, List.all_append, Bool.and_eq_true]
  exact ck_6_0
theorem ck_7 : T_7.all (chkE 7) = true := by
  simp only [T_7, List.all_append, Bool.and_eq_true]
  exact ck_7_0
theorem ck_8 : T_8.all (chkE 8) = true := by
  simp only [T_8, List.all_append, Bool.and_eq_true]
  exact ck_8_0
theorem ck_9 : T_9.all (chkE 9) = true := by
  simp only [T_9, List.all_append, Bool.and_eq_true]
  exact ck_9_0
theorem ck_10 : T_10.all (chkE 10) = true := by
  simp only [T_10, List.all_append, Bool.and_eq_true]
  exact ck_10_0
theorem ck_11 : T_11.all (chkE 11) = true := by
  simp only [T_11, List.all_append, Bool.and_eq_true]
  exact ⟨ck_11_0, ck_11_1⟩
theorem ck_12 : T_12.all (chkE 12) = true := by
  simp only [T_12, List.all_append, Bool.and_eq_true]
  exact ck_12_0
theorem ck_13 : T_13.all (chkE 13) = true := by
  simp only [T_13, List.all_append, Bool.and_eq_true]
  exact ck_13_0
theorem ck_14 : T_14.all (chkE 14) = true := by
  simp only [T_14, List.all_append, Bool.and_eq_true]
  exact ck_14_0
theorem ck_15 : T_15.all (chkE 15) = true := by
  simp only [T_15, List.all_append, Bool.and_eq_true]
  exact ck_15_0
theorem ck_16 : T_16.all (chkE 16) = true := by
  simp only [T_16, List.all_append, Bool.and_eq_true]
  exact ck_16_0
theorem ck_17 : T_17.all (chkE 17) = true := by
  simp only [T_17, List.all_append, Bool.and_eq_true]
  exact ⟨ck_17_0, ck_17_1⟩
theorem ck_18 : T_18.all (chkE 18) = true := by
  simp only [T_18, List.all_append, Bool.and_eq_true]
  exact ck_18_0
theorem ck_19 : T_19.all (chkE 19) = true := by
  simp only [T_19, List.all_append, Bool.and_eq_true]
  exact ck_19_0
theorem ck_20 : T_20.all (chkE 20) = true := by
  simp only [T_20, List.all_append, Bool.and_eq_true]
  exact ck_20_0
theorem ck_21 : T_21.all (chkE 21) = true := by
  simp only [T_21, List.all_append, Bool.and_eq_true]
  exact ck_21_0
theorem ck_22 : T_22.all (chkE 22) = true := by
  simp only [T_22, List.all_append, Bool.and_eq_true]
  exact ck_22_0
theorem ck_23 : T_23.all (chkE 23) = true := by
  simp only [T_23, List.all_append, Bool.and_eq_true]
  exact ck_23_0
theorem ck_24 : T_24.all (chkE 24) = true := by
  simp only [T_24, List.all_append, Bool.and_eq_true]
  exact ck_24_0
theorem ck_25 : T_25.all (chkE 25) = true := by
  simp only [T_25, List.all_append, Bool.and_eq_true]
  exact ⟨ck_25_0, ck_25_1⟩
theorem ck_26 : T_26.all (chkE 26) = true := by
  simp only [T_26, List.all_append, Bool.and_eq_true]
  exact ck_26_0
theorem ck_27 : T_27.all (chkE 27) = true := by
  simp only [T_27, List.all_append, Bool.and_eq_true]
  exact ck_27_0
theorem ck_28 : T_28.all (chkE 28) = true := by
  simp only [T_28, List.all_append, Bool.and_eq_true]
  exact ⟨ck_28_0, ck_28_1⟩
theorem ck_29 : T_29.all (chkE 29) = true := by
  simp only [T_29, List.all_append, Bool.and_eq_true]
  exact ck_29_0
theorem ck_30 : T_30.all (chkE 30) = true := by
  simp only [T_30, List.all_append, Bool.and_eq_true]
  exact ck_30_0
theorem ck_31 : T_31.all (chkE 31) = true := by
  simp only [T_31, List.all_append, Bool.and_eq_true]
  exact ck_31_0
theorem ck_32 : T_32.all (chkE 32) = true := by
  simp only [T_32, List.all_append, Bool.and_eq_true]
  exact ck_32_0
theorem ck_33 : T_33.all (chkE 33) = true := by
  simp only [T_33, List.all_append, Bool.and_eq_true]
  exact ck_33_0
theorem ck_34 : T_34.all (chkE 34) = true := by
  simp only [T_34, List.all_append, Bool.and_eq_true]
  exact ck_34_0
theorem ck_35 : T_35.all (chkE 35) = true := by
  simp only [T_35, List.all_append, Bool.and_eq_true]
  exact ck_35_0
theorem ck_36 : T_36.all (chkE 36) = true := by
  simp only [T_36, List.all_append, Bool.and_eq_true]
  exact ck_36_0
theorem ck_37 : T_37.all (chkE 37) = true := by
  simp only [T_37, List.all_append, Bool.and_eq_true]
  exact ck_37_0
theorem ck_38 : T_38.all (chkE 38) = true := by
  simp only [T_38, List.all_append, Bool.and_eq_true]
  exact ⟨ck_38_0, ck_38_1⟩
theorem ck_39 : T_39.all (chkE 39) = true := by
  simp only [T_39, List.all_append, Bool.and_eq_true]
  exact ck_39_0
theorem ck_40 : T_40.all (chkE 40) = true := by
  simp only [T_40, List.all_append, Bool.and_eq_true]
  exact ck_40_0
theorem ck_41 : T_41.all (chkE 41) = true := by
  simp only [T_41, List.all_append, Bool.and_eq_true]
  exact ck_41_0
theorem ck_42 : T_42.all (chkE 42) = true := by
  simp only [T_42, List.all_append, Bool.and_eq_true]
  exact ck_42_0
theorem ck_43 : T_43.all (chkE 43) = true := by
  simp only [T_43, List.all_append, Bool.and_eq_true]
  exact ck_43_0
theorem ck_44 : T_44.all (chkE 44) = true := by
  simp only [T_44, List.all_append, Bool.and_eq_true]
  exact ck_44_0
theorem ck_45 : T_45.all (chkE 45) = true := by
  simp only [T_45, List.all_append, Bool.and_eq_true]
  exact ck_45_0
theorem ck_46 : T_46.all (chkE 46) = true := by
  simp only [T_46, List.all_append, Bool.and_eq_true]
  exact ck_46_0
theorem ck_47 : T_47.all (chkE 47) = true := by
  simp only [T_47, List.all_append, Bool.and_eq_true]
  exact ⟨ck_47_0, ck_47_1⟩
theorem ck_48 : T_48.all (chkE 48) = true := by
  simp only [T_48, List.all_append, Bool.and_eq_true]
  exact ⟨ck_48_0, ck_48_1⟩
theorem ck_49 : T_49.all (chkE 49) = true := by
  simp only [T_49, List.all_append, Bool.and_eq_true]
  exact ck_49_0
theorem ck_50 : T_50.all (chkE 50) = true := by
  simp only [T_50, List.all_append, Bool.and_eq_true]
  exact ck_50_0
theorem ck_51 : T_51.all (chkE 51) = true := by
  simp only [T_51, List.all_append, Bool.and_eq_true]
  exact ck_51_0
theorem ck_52 : T_52.all (chkE 52) = true := by
  simp only [T_52, List.all_append, Bool.and_eq_true]
  exact ck_52_0
theorem ck_53 : T_53.all (chkE 53) = true := by
  simp only [T_53, List.all_append, Bool.and_eq_true]
  exact ck_53_0
theorem ck_54 : T_54.all (chkE 54) = true := by
  simp only [T_54, List.all_append, Bool.and_eq_true]
  exact ck_54_0
theorem ck_55 : T_55.all (chkE 55) = true := by
  simp only [T_55, List.all_append, Bool.and_eq_true]
  exact ck_55_0
theorem ck_56 : T_56.all (chkE 56) = true := by
  simp only [T_56, List.all_append, Bool.and_eq_true]
  exact ck_56_0
theorem ck_57 : T_57.all (chkE 57) = true := by
  simp only [T_57, List.all_append, Bool.and_eq_true]
  exact ck_57_0
theorem ck_58 : T_58.all (chkE 58) = true := by
  simp only [T_58, List.all_append, Bool.and_eq_true]
  exact ck_58_0
theorem ck_59 : T_59.all (chkE 59) = true := by
  simp only [T_59, List.all_append, Bool.and_eq_true]
  exact ck_59_0
theorem ck_60 : T_60.all (chkE 60) = true := by
  simp only [T_60, List.all_append, Bool.and_eq_true]
  exact ck_60_0
theorem ck_61 : T_61.all (chkE 61) = true := by
  simp only [T_61, List.all_append, Bool.and_eq_true]
  exact ⟨ck_61_0, ck_61_1⟩
theorem ck_62 : T_62.all (chkE 62) = true := by
  simp only [T_62, List.all_append, Bool.and_eq_true]
  exact ⟨ck_62_0, ck_62_1⟩
theorem ck_63 : T_63.all (chkE 63) = true := by
  simp only [T_63, List.all_append, Bool.and_eq_true]
  exact ⟨ck_63_0, ck_63_1⟩
theorem ck_64 : T_64.all (chkE 64) = true := by
  simp only [T_64, List.all_append, Bool.and_eq_true]
  exact ⟨ck_64_0, ck_64_1⟩
theorem ck_65 : T_65.all (chkE 65) = true := by
  simp only [T_65, List.all_append, Bool.and_eq_true]
  exact ck_65_0
theorem ck_66 : T_66.all (chkE 66) = true := by
  simp only [T_66, List.all_append, Bool.and_eq_true]
  exact ck_66_0
theorem ck_67 : T_67.all (chkE 67) = true := by
  simp only [T_67, List.all_append, Bool.and_eq_true]
  exact ck_67_0
theorem ck_68 : T_68.all (chkE 68) = true := by
  simp only [T_68, List.all_append, Bool.and_eq_true]
  exact ⟨ck_68_0, ck_68_1⟩
theorem ck_69 : T_69.all (chkE 69) = true := by
  simp only [T_69, List.all_append, Bool.and_eq_true]
  exact ck_69_0
theorem ck_70 : T_70.all (chkE 70) = true := by
  simp only [T_70, List.all_append, Bool.and_eq_true]
  exact ck_70_0
theorem ck_71 : T_71.all (chkE 71) = true := by
  simp only [T_71, List.all_append, Bool.and_eq_true]
  exact ⟨ck_71_0, ck_71_1⟩
theorem ck_72 : T_72.all (chkE 72) = true := by
  simp only [T_72, List.all_append, Bool.and_eq_true]
  exact ⟨⟨⟨⟨ck_72_0, ck_72_1⟩, ck_72_2⟩, ck_72_3⟩, ck_72_4⟩
theorem ck_73 : T_73.all (chkE 73) = true := by
  simp only [T_73, List.all_append, Bool.and_eq_true]
  exact ck_73_0
theorem ck_74 : T_74.all (chkE 74) = true := by
  simp only [T_74, List.all_append, Bool.and_eq_true]
  exact ck_74_0
theorem ck_75 : T_75.all (chkE 75) = true := by
  simp only [T_75, List.all_append, Bool.and_eq_true]
  exact ck_75_0
theorem ck_76 : T_76.all (chkE 76) = true := by
  simp only [T_76, List.all_append, Bool.and_eq_true]
  exact ⟨ck_76_0, ck_76_1⟩
theorem ck_77 : T_77.all (chkE 77) = true := by
  simp only [T_77, List.all_append, Bool.and_eq_true]
  exact ck_77_0
theorem ck_78 : T_78.all (chkE 78) = true := by
  simp only [T_78, List.all_append, Bool.and_eq_true]
  exact ck_78_0
theorem ck_79 : T_79.all (chkE 79) = true := by
  simp only [T_79, List.all_append, Bool.and_eq_true]
  exact ck_79_0
theorem ck_80 : T_80.all (chkE 80) = true := by
  simp only [T_80, List.all_append, Bool.and_eq_true]
  exact ck_80_0
theorem ck_81 : T_81.all (chkE 81) = true := by
  simp only [T_81, List.all_append, Bool.and_eq_true]
  exact ck_81_0
theorem ck_82 : T_82.all (chkE 82) = true := by
  simp only [T_82, List.all_append, Bool.and_eq_true]
  exact ck_82_0
theorem ck_83 : T_83.all (chkE 83) = true := by
  simp only [T_83, List.all_append, Bool.and_eq_true]
  exact ck_83_0
theorem ck_84 : T_84.all (chkE 84) = true := by
  simp only [T_84, List.all_append, Bool.and_eq_true]
  exact ck_84_0
theorem ck_85 : T_85.all (chkE 85) = true := by
  simp only [T_85, List.all_append, Bool.and_eq_true]
  exact ⟨ck_85_0, ck_85_1⟩
theorem ck_86 : T_86.all (chkE 86) = true := by
  simp only [T_86, List.all_append, Bool.and_eq_true]
  exact ck_86_0
theorem ck_87 : T_87.all (chkE 87) = true := by
  simp only [T_87, List.all_append, Bool.and_eq_true]
  exact ck_87_0
theorem ck_88 : T_88.all (chkE 88) = true := by
  simp only [T_88, List.all_append, Bool.and_eq_true]
  exact ck_88_0
theorem ck_89 : T_89.all (chkE 89) = true := by
  simp only [T_89, List.all_append, Bool.and_eq_true]
  exact ck_89_0
theorem ck_90 : T_90.all (chkE 90) = true := by
  simp only [T_90, List.all_append, Bool.and_eq_true]
  exact ⟨ck_90_0, ck_90_1⟩
theorem ck_91 : T_91.all (chkE 91) = true := by
  simp only [T_91, List.all_append, Bool.and_eq_true]
  exact ck_91_0
theorem ck_92 : T_92.all (chkE 92) = true := by
  simp only [T_92, List.all_append, Bool.and_eq_true]
  exact ck_92_0
theorem ck_93 : T_93.all (chkE 93) = true := by
  simp only [T_93, List.all_append, Bool.and_eq_true]
  exact ck_93_0
theorem ck_94 : T_94.all (chkE 94) = true := by
  simp only [T_94, List.all_append, Bool.and_eq_true]
  exact ⟨ck_94_0, ck_94_1⟩
theorem ck_95 : T_95.all (chkE 95) = true := by
  simp only [T_95, List.all_append, Bool.and_eq_true]
  exact ck_95_0
theorem ck_96 : T_96.all (chkE 96) = true := by
  simp only [T_96, List.all_append, Bool.and_eq_true]
  exact ck_96_0
theorem ck_97 : T_97.all (chkE 97) = true := by
  simp only [T_97, List.all_append, Bool.and_eq_true]
  exact ⟨ck_97_0, ck_97_1⟩
theorem ck_98 : T_98.all (chkE 98) = true := by
  simp only [T_98, List.all_append, Bool.and_eq_true]
  exact ck_98_0
theorem ck_99 : T_99.all (chkE 99) = true := by
  simp only [T_99, List.all_append, Bool.and_eq_true]
  exact ⟨⟨ck_99_0, ck_99_1⟩, ck_99_2⟩
theorem ck_100 : T_100.all (chkE 100) = true := by
  simp only [T_100, List.all_append, Bool.and_eq_true]
  exact ck_100_0
theorem ck_101 : T_101.all (chkE 101) = true := by
  simp only [T_101, List.all_append, Bool.and_eq_true]
  exact ck_101_0
theorem ck_102 : T_102.all (chkE 102) = true := by
  simp only [T_102, List.all_append, Bool.and_eq_true]
  exact ck_102_0
theorem ck_103 : T_103.all (chkE 103) = true := by
  simp only [T_103, List.all_append, Bool.and_eq_true]
  exact ck_103_0
theorem ck_104 : T_104.all (chkE 104) = true := by
  simp only [T_104, List.all_append, Bool.and_eq_true]
  exact ⟨⟨ck_104_0, ck_104_1⟩, ck_104_2⟩
theorem ck_105 : T_105.all (chkE 105) = true := by
  simp only [T_105, List.all_append, Bool.and_eq_true]
  exact ck_105_0
theorem ck_106 : T_106.all (chkE 106) = true := by
  simp only [T_106, List.all_append, Bool.and_eq_true]
  exact ⟨ck_106_0, ck_106_1⟩
theorem ck_107 : T_107.all (chkE 107) = true := by
  simp only [T_107, List.all_append, Bool.and_eq_true]
  exact ck_107_0
theorem ck_108 : T_108.all (chkE 108) = true := by
  simp only [T_108, List.all_append, Bool.and_eq_true]
  exact ⟨ck_108_0, ck_108_1⟩
theorem ck_109 : T_109.all (chkE 109) = true := by
  simp only [T_109, List.all_append, Bool.and_eq_true]
  exact ck_109_0
theorem ck_110 : T_110.all (chkE 110) = true := by
  simp only [T_110, List.all_append, Bool.and_eq_true]
  exact ⟨ck_110_0, ck_110_1⟩
theorem ck_111 : T_111.all (chkE 111) = true := by
  simp only [T_111, List.all_append, Bool.and_eq_true]
  exact ck_111_0
theorem ck_112 : T_112.all (chkE 112) = true := by
  simp only [T_112, List.all_append, Bool.and_eq_true]
  exact ⟨ck_112_0, ck_112_1⟩
theorem ck_113 : T_113.all (chkE 113) = true := by
  simp only [T_113, List.all_append, Bool.and_eq_true]
  exact ck_113_0
theorem ck_114 : T_114.all (chkE 114) = true := by
  simp only [T_114, List.all_append, Bool.and_eq_true]
  exact ck_114_0
theorem ck_115 : T_115.all (chkE 115) = true := by
  simp only [T_115, List.all_append, Bool.and_eq_true]
  exact ⟨ck_115_0, ck_115_1⟩
theorem ck_116 : T_116.all (chkE 116) = true := by
  simp only [T_116, List.all_append, Bool.and_eq_true]
  exact ⟨⟨⟨ck_116_0, ck_116_1⟩, ck_116_2⟩, ck_116_3⟩
theorem ck_117 : T_117.all (chkE 117) = true := by
  simp only [T_117, List.all_append, Bool.and_eq_true]
  exact ⟨ck_117_0, ck_117_1⟩
theorem ck_118 : T_118.all (chkE 118) = true := by
  simp only [T_118, List.all_append, Bool.and_eq_true]
  exact ck_118_0
theorem ck_119 : T_119.all (chkE 119) = true := by
  simp only [T_119, List.all_append, Bool.and_eq_true]
  exact ⟨ck_119_0, ck_119_1⟩
theorem ck_120 : T_120.all (chkE 120) = true := by
  simp only [T_120, List.all_append, Bool.and_eq_true]
  exact ck_120_0
theorem ck_121 : T_121.all (chkE 121) = true := by
  simp only [T_121, List.all_append, Bool.and_eq_true]
  exact ck_121_0
theorem ck_122 : T_122.all (chkE 122) = true := by
  simp only [T_122, List.all_append, Bool.and_eq_true]
  exact ck_122_0
theorem ck_123 : T_123.all (chkE 123) = true := by
  simp only [T_123, List.all_append, Bool.and_eq_true]
  exact ⟨ck_123_0, ck_123_1⟩
theorem ck_124 : T_124.all (chkE 124) = true := by
  simp only [T_124, List.all_append, Bool.and_eq_true]
  exact ⟨ck_124_0, ck_124_1⟩
theorem ck_125 : T_125.all (chkE 125) = true := by
  simp only [T_125, List.all_append, Bool.and_eq_true]
  exact ck_125_0
theorem ck_126 : T_126.all (chkE 126) = true := by
  simp only [T_126, List.all_append, Bool.and_eq_true]
  exact ck_126_0
theorem ck_127 : T_127.all (chkE 127) = true := by
  simp only [T_127, List.all_append, Bool.and_eq_true]
  exact ⟨⟨⟨ck_127_0, ck_127_1⟩, ck_127_2⟩, ck_127_3⟩
theorem ck_128 : T_128.all (chkE 128) = true := by
  simp only [T_128, List.all_append, Bool.and_eq_true]
  exact ck_128_0
theorem ck_129 : T_129.all (chkE 129) = true := by
  simp only [T_129, List.all_append, Bool.and_eq_true]
  exact ck_129_0
theorem ck_130 : T_130.all (chkE 130) = true := by
  simp only [T_130, List.all_append, Bool.and_eq_true]
  exact ⟨⟨ck_130_0, ck_130_1⟩, ck_130_2⟩
theorem ck_131 : T_131.all (chkE 131) = true := by
  simp only [T_131, List.all_append, Bool.and_eq_true]
  exact ck_131_0
theorem ck_132 : T_132.all (chkE 132) = true := by
  simp only [T_132, List.all_append, Bool.and_eq_true]
  exact ck_132_0
theorem ck_133 : T_133.all (chkE 133) = true := by
  simp only [T_133, List.all_append, Bool.and_eq_true]
  exact ⟨ck_133_0, ck_133_1⟩
theorem ck_134 : T_134.all (chkE 134) = true := by
  simp only [T_134, List.all_append, Bool.and_eq_true]
  exact ⟨ck_134_0, ck_134_1⟩
theorem ck_135 : T_135.all (chkE 135) = true := by
  simp only [T_135, List.all_append, Bool.and_eq_true]
  exact ck_135_0
theorem ck_136 : T_136.all (chkE 136) = true := by
  simp only [T_136, List.all_append, Bool.and_eq_true]
  exact ck_136_0
theorem ck_137 : T_137.all (chkE 137) = true := by
  simp only [T_137, List.all_append, Bool.and_eq_true]
  exact ck_137_0
theorem ck_138 : T_138.all (chkE 138) = true := by
  simp only [T_138, List.all_append, Bool.and_eq_true]
  exact ⟨⟨⟨ck_138_0, ck_138_1⟩, ck_138_2⟩, ck_138_3⟩
theorem ck_139 : T_139.all (chkE 139) = true := by
  simp only [T_139, List.all_append, Bool.and_eq_true]
  exact ⟨ck_139_0, ck_139_1⟩
theorem ck_140 : T_140.all (chkE 140) = true := by
  simp only [T_140, List.all_append, Bool.and_eq_true]
  exact ck_140_0
theorem ck_141 : T_141.all (chkE 141) = true := by
  simp only [T_141, List.all_append, Bool.and_eq_true]
  exact ck_141_0
theorem ck_142 : T_142.all (chkE 142) = true := by
  simp only [T_142, List.all_append, Bool.and_eq_true]
  exact ck_142_0
theorem ck_143 : T_143.all (chkE 143) = true := by
  simp only [T_143, List.all_append, Bool.and_eq_true]
  exact ck_143_0
theorem ck_144 : T_144.all (chkE 144) = true := by
  simp only [T_144, List.all_append, Bool.and_eq_true]
  exact ck_144_0
theorem ck_145 : T_145.all (chkE 145) = true := by
  simp only [T_145, List.all_append, Bool.and_eq_true]
  exact ck_145_0
theorem ck_146 : T_146.all (chkE 146) = true := by
  simp only [T_146, List.all_append, Bool.and_eq_true]
  exact ck_146_0
theorem ck_147 : T_147.all (chkE 147) = true := by
  simp only [T_147, List.all_append, Bool.and_eq_true]
  exact ck_147_0
theorem ck_148 : T_148.all (chkE 148) = true := by
  simp only [T_148, List.all_append, Bool.and_eq_true]
  exact ⟨⟨⟨⟨⟨⟨⟨⟨⟨⟨⟨⟨ck_148_0, ck_148_1⟩, ck_148_2⟩, ck_148_3⟩, ck_148_4⟩, ck_148_5⟩, ck_148_6⟩, ck_148_7⟩, ck_148_8⟩, ck_148_9⟩, ck_148_10⟩, ck_148_11⟩, ck_148_12⟩
def chkT : Nat → List (List TE) → Prop
  | _, [] => True
  | i, t :: r => t.all (chkE i) = true ∧ chkT (i + 1) r
theorem ck_T : chkT 0 TBL := ⟨ck_0, ck_1, ck_2, ck_3, ck_4, ck_5, ck_6, ck_7, ck_8, ck_9, ck_10, ck_11, ck_12, ck_13, ck_14, ck_15, ck_16, ck_17, ck_18, ck_19, ck_20, ck_21, ck_22, ck_23, ck_24, ck_25, ck_26, ck_27, ck_28, ck_29, ck_30, ck_31, ck_32, ck_33, ck_34, ck_35, ck_36, ck_37, ck_38, ck_39, ck_40, ck_41, ck_42, ck_43, ck_44, ck_45, ck_46, ck_47, ck_48, ck_49, ck_50, ck_51, ck_52, ck_53, ck_54, ck_55, ck_56, ck_57, ck_58, ck_59, ck_60, ck_61, ck_62, ck_63, ck_64, ck_65, ck_66, ck_67, ck_68, ck_69, ck_70, ck_71, ck_72, ck_73, ck_74, ck_75, ck_76, ck_77, ck_78, ck_79, ck_80, ck_81, ck_82, ck_83, ck_84, ck_85, ck_86, ck_87, ck_88, ck_89, ck_90, ck_91, ck_92, ck_93, ck_94, ck_95, ck_96, ck_97, ck_98, ck_99, ck_100, ck_101, ck_102, ck_103, ck_104, ck_105, ck_106, ck_107, ck_108, ck_109, ck_110, ck_111, ck_112, ck_113, ck_114, ck_115, ck_116, ck_117, ck_118, ck_119, ck_120, ck_121, ck_122, ck_123, ck_124, ck_125, ck_126, ck_127, ck_128, ck_129, ck_130, ck_131, ck_132, ck_133, ck_134, ck_135, ck_136, ck_137, ck_138, ck_139, ck_140, ck_141, ck_142, ck_143, ck_144, ck_145, ck_146, ck_147, ck_148, trivial⟩
theorem chkT_get : ∀ (L : List (List TE)) (i j : Nat) (t : List TE), chkT i L → L[j]? = some t → t.all (chkE (i + j)) = true
  | [], _, _, _, _, h => by simp at h
  | x :: r, i, 0, t, hc, h => by
    simp only [List.getElem?_cons_zero, Option.some.injEq] at h
    subst h
    exact hc.1
  | x :: r, i, j + 1, t, hc, h => by
    simp only [List.getElem?_cons_succ] at h
    have e := chkT_get r (i + 1) j t hc.2 h
    rw [show i + (j + 1) = i + 1 + j by omega]
    exact e
theorem fetch_chk {k pc pc0 : Nat} {i : Instr} {len a b c : Nat} {z : Int} (h : fetch k pc = some (pc0, i, len, a, b, c, z)) : pc0 = pc ∧ chkE k (pc, i, len, a, b, c, z) = true := by
  unfold fetch at h
  have h2 := List.find?_some h
  have h1 := List.mem_of_find?_eq_some h
  have e : pc0 = pc := by simpa using h2
  subst e
  refine ⟨rfl, ?_⟩
  cases ht : TBL[k]? with
  | none => rw [ht] at h1; simp at h1
  | some t =>
    rw [ht] at h1
    have q := chkT_get TBL 0 k t ck_T ht
    rw [Nat.zero_add] at q
    exact List.all_eq_true.mp q _ h1
theorem chkM_ok {k : Nat} (h : k < 148) : chkM k = true := by
  have hd : ∀ j, j < 8 → (∀ i, i < 20 → 20 * j + i < 148 → chkM (20 * j + i) = true) := by
    intro j hj i hi hb
    match j, hj with
    | 0, _ => exact List.all_eq_true.mp ckm_0 _ (by rw [List.mem_drop_iff_getElem]; exact ⟨i, by simp; omega, by simp⟩)
    | 1, _ => exact List.all_eq_true.mp ckm_1 _ (by rw [List.mem_drop_iff_getElem]; exact ⟨i, by simp; omega, by simp⟩)
    | 2, _ => exact List.all_eq_true.mp ckm_2 _ (by rw [List.mem_drop_iff_getElem]; exact ⟨i, by simp; omega, by simp⟩)
    | 3, _ => exact List.all_eq_true.mp ckm_3 _ (by rw [List.mem_drop_iff_getElem]; exact ⟨i, by simp; omega, by simp⟩)
    | 4, _ => exact List.all_eq_true.mp ckm_4 _ (by rw [List.mem_drop_iff_getElem]; exact ⟨i, by simp; omega, by simp⟩)
    | 5, _ => exact List.all_eq_true.mp ckm_5 _ (by rw [List.mem_drop_iff_getElem]; exact ⟨i, by simp; omega, by simp⟩)
    | 6, _ => exact List.all_eq_true.mp ckm_6 _ (by rw [List.mem_drop_iff_getElem]; exact ⟨i, by simp; omega, by simp⟩)
    | 7, _ => exact List.all_eq_true.mp ckm_7 _ (by rw [List.mem_drop_iff_getElem]; exact ⟨i, by simp; omega, by simp⟩)
    | n + 8, hj => omega
  have e := hd (k / 20) (by omega) (k % 20) (by omega) (by omega)
  rw [show 20 * (k / 20) + k % 20 = k by omega] at e
  exact e
theorem nest_in {w : Jvm.Cond} (h : w ∈ NWL) : w ∈ lw_tbl := by
  obtain ⟨i, hi⟩ := List.getElem?_of_mem h
  have hl : i < 33 := (List.getElem?_eq_some_iff.mp hi).1
  have h1 : ∀ j, j < 33 → ∃ q ∈ NWP, q.1 = j := by decide +kernel
  obtain ⟨q, hq, rfl⟩ := h1 i hl
  have h2 := List.all_eq_true.mp ck_nest q hq
  rw [hi] at h2
  exact List.mem_of_getElem? (of_decide_eq_true h2)
end
section
/-! AN INTERPRETER of the instructions that these classes use, over a heap of places: what a method does, as a function. Its soundness over the machine is the next part. -/
abbrev Ob : Type := (Nat × (Nat → Int32)) ⊕ (Nat × List Value)
abbrev Hp : Type := List Ob
abbrev Ls : Type := List (Option Value)
abbrev Lq : Type := List (Nat × Int64)
abbrev Cf : Type := Nat × Nat × Ls × Lq × List Value × Hp × Nat × Nat
abbrev Ot : Type := Option Value × Hp
abbrev Ef : Type := Option (Cf ⊕ (Cf × Cf))
def nxt (c : Cf) : Ef := some (.inl c)
def hg (h : Hp) (a : Nat) : Option Ob := if SCR ≤ a then none else h[a]?
def ldI (ls : Ls) (n : Nat) (f : Int32 → Ef) : Ef := match ls[n]? with
  | some (some (.int x)) => f x
  | _ => none
def ldR (ls : Ls) (n : Nat) (f : Nat → Ef) : Ef := match ls[n]? with
  | some (some (.ref x)) => f x
  | _ => none
def ldL (lq : Lq) (n : Nat) (f : Int64 → Ef) : Ef := match lq.find? (fun q => q.1 == n) with
  | some q => f q.2
  | none => none
def popI (st : List Value) (f : Int32 → List Value → Ef) : Ef := match st with
  | .int x :: r => f x r
  | _ => none
def popII (st : List Value) (f : Int32 → Int32 → List Value → Ef) : Ef := match st with
  | .int y :: .int x :: r => f x y r
  | _ => none
def popL (st : List Value) (f : Int64 → List Value → Ef) : Ef := match st with
  | .long x :: r => f x r
  | _ => none
def popLL (st : List Value) (f : Int64 → Int64 → List Value → Ef) : Ef := match st with
  | .long y :: .long x :: r => f x y r
  | _ => none
def popR (st : List Value) (f : Nat → List Value → Ef) : Ef := match st with
  | .ref x :: r => f x r
  | _ => none
def popV (st : List Value) (f : Value → List Value → Ef) : Ef := match st with
  | .int x :: r => f (.int x) r
  | .ref x :: r => f (.ref x) r
  | _ => none
def stor (ls : Ls) (lq : Lq) (n : Nat) (v : Value) (f : Ls → Lq → Ef) : Ef :=
  if n < ls.length then f (ls.set n (some v)) (lq.filter (fun q => !(q.1 == n) && !(q.1 + 1 == n))) else none
def storL (ls : Ls) (lq : Lq) (n : Nat) (x : Int64) (f : Ls → Lq → Ef) : Ef :=
  if n + 1 < ls.length then f ((ls.set n none).set (n + 1) none) ((n, x) :: lq.filter (fun q => !(q.1 == n) && (!(q.1 == n + 1) && !(q.1 + 1 == n)))) else none
def jmp (pc : Nat) (o : Option Int) (f : Nat → Ef) : Ef := match o with
  | some off => if 0 ≤ (pc : Int) + off then f ((pc : Int) + off).toNat else none
  | none => none
def isN (f g : Ef) (c : ClassFile.Cond) (x y : Int32) : Ef := match c with
  | .eq => if x = y then f else g
  | .ne => if x = y then g else f
  | .lt => if x < y then f else g
  | .ge => if y ≤ x then f else g
  | .gt => if y < x then f else g
  | .le => if x ≤ y then f else g
def fldOk (ty : FieldType) (v : Value) : Bool := match ty, v with
  | .int, .int _ => true
  | .boolean, .int x => x == 0 || x == 1
  | .long, .long _ => true
  | .object _, .ref _ => true
  | .array _, .ref _ => true
  | _, _ => false
def retOk (t : Option FieldType) (x : Int32) : Bool := match t with
  | some .int => true
  | some .boolean => x == 0 || x == 1
  | some .byte => x == 0
  | _ => false
def csum (st : List Value) : Nat := (st.map fun v => v.category).sum
def mkLs (vs : List Value) : Ls := vs.flatMap fun v => if v.category = 2 then [none, none] else [some v]
def mkLq : Nat → List Value → Lq
  | _, [] => []
  | i, v :: vs => (match v with
    | .long x => [(i, x)]
    | _ => []) ++ mkLq (if v.category = 2 then i + 2 else i + 1) vs
def padL (l : Ls) (n : Nat) : Ls := l ++ List.replicate (n - l.length) none
def rcv (h : Hp) (ci : Nat) (st : List Value) : Bool := match st with
  | .ref p :: _ => if p = STRR then ci == 11 else (match hg h p with
    | some (.inr (c, _)) => c == ci
    | _ => false)
  | _ => false
def start (h : Hp) (b : Nat) (vs : List Value) : Cf := (b, 0, padL (mkLs vs) (NL b), mkLq 0 vs, [], h, MC b, MS b)
def call (recv : Bool) (k pc : Nat) (ls : Ls) (lq : Lq) (st : List Value) (h : Hp) (cb sb b n : Nat) : Ef :=
  let m := if recv then n + 1 else n
  if m ≤ st.length ∧ csum (st.drop m) ≤ 8 ∧ csum (st.take m) ≤ NL b ∧ MC b ≤ cb ∧ MS b ≤ sb ∧ (recv = true → rcv h (CK b) (st.drop n) = true) then
    some (.inr (start h b (st.take m).reverse, (k, pc + 3, ls, lq, st.drop m, h, cb - MC b, sb - MS b)))
  else none
def resume (c : Cf) (o : Ot) : Cf := match c with
  | (k, pc, ls, lq, st, _, cb, sb) => (k, pc, ls, lq, o.1.toList ++ st, o.2, cb, sb)
def effN (sc : Nat × (Nat → Int32)) (c : Cf) : Ef := match c with
  | (k, pc, ls, lq, st, h, cb, sb) => match fetch k pc with
    | none => none
    | some (_, i, _, a, b, _, z) => match i with
      | .iconst n => nxt (k, pc + 1, ls, lq, .int (Int32.ofInt n) :: st, h, cb, sb)
      | .bipush n => nxt (k, pc + 2, ls, lq, .int (Int8.ofInt n).toInt32 :: st, h, cb, sb)
      | .sipush n => nxt (k, pc + 3, ls, lq, .int (Int16.ofInt n).toInt32 :: st, h, cb, sb)
      | .lconst n => nxt (k, pc + 1, ls, lq, .long (Int64.ofNat (n : Nat)) :: st, h, cb, sb)
      | .ldc _ => if a = 7 then nxt (k, pc + 2, ls, lq, .ref STRR :: st, h, cb, sb) else nxt (k, pc + 2, ls, lq, .int (Int32.ofInt z) :: st, h, cb, sb)
      | .getstatic _ => nxt (k, pc + 3, ls, lq, .int 1 :: st, h, cb, sb)
      | .baload => popI st (fun j s1 => popR s1 (fun p r => if p = BYTR ∧ ¬ (j < 0 ∨ 7 ≤ j.toNatClampNeg) then nxt (k, pc + 1, ls, lq, .int (BYTES.getD j.toNatClampNeg 0) :: r, h, cb, sb) else none))
      | .i2b => popI st (fun x r => nxt (k, pc + 1, ls, lq, .int x.toInt8.toInt32 :: r, h, cb, sb))
      | .i2c => popI st (fun x r => nxt (k, pc + 1, ls, lq, .int (x.toUInt32 % 65536).toInt32 :: r, h, cb, sb))
      | .ldc_w _ => nxt (k, pc + 3, ls, lq, .int (Int32.ofInt z) :: st, h, cb, sb)
      | .ldc2_w _ => nxt (k, pc + 3, ls, lq, .long (Int64.ofInt z) :: st, h, cb, sb)
      | .iload n => ldI ls n (fun x => nxt (k, pc + 2, ls, lq, .int x :: st, h, cb, sb))
      | .iload_n n => ldI ls (n : Nat) (fun x => nxt (k, pc + 1, ls, lq, .int x :: st, h, cb, sb))
      | .aload n => ldR ls n (fun x => nxt (k, pc + 2, ls, lq, .ref x :: st, h, cb, sb))
      | .aload_n n => ldR ls (n : Nat) (fun x => nxt (k, pc + 1, ls, lq, .ref x :: st, h, cb, sb))
      | .lload n => ldL lq n (fun x => nxt (k, pc + 2, ls, lq, .long x :: st, h, cb, sb))
      | .lload_n n => ldL lq (n : Nat) (fun x => nxt (k, pc + 1, ls, lq, .long x :: st, h, cb, sb))
      | .istore n => popI st (fun x r => stor ls lq n (.int x) (fun ls' lq' => nxt (k, pc + 2, ls', lq', r, h, cb, sb)))
      | .istore_n n => popI st (fun x r => stor ls lq (n : Nat) (.int x) (fun ls' lq' => nxt (k, pc + 1, ls', lq', r, h, cb, sb)))
      | .astore n => popR st (fun x r => stor ls lq n (.ref x) (fun ls' lq' => nxt (k, pc + 2, ls', lq', r, h, cb, sb)))
      | .astore_n n => popR st (fun x r => stor ls lq (n : Nat) (.ref x) (fun ls' lq' => nxt (k, pc + 1, ls', lq', r, h, cb, sb)))
      | .lstore n => popL st (fun x r => storL ls lq n x (fun ls' lq' => nxt (k, pc + 2, ls', lq', r, h, cb, sb)))
      | .lstore_n n => popL st (fun x r => storL ls lq (n : Nat) x (fun ls' lq' => nxt (k, pc + 1, ls', lq', r, h, cb, sb)))
      | .iinc n d => ldI ls n (fun x => stor ls lq n (.int (x + Int32.ofInt d)) (fun ls' lq' => nxt (k, pc + 3, ls', lq', st, h, cb, sb)))
      | .iadd => popII st (fun x y r => nxt (k, pc + 1, ls, lq, .int (x + y) :: r, h, cb, sb))
      | .isub => popII st (fun x y r => nxt (k, pc + 1, ls, lq, .int (x - y) :: r, h, cb, sb))
      | .imul => popII st (fun x y r => nxt (k, pc + 1, ls, lq, .int (x * y) :: r, h, cb, sb))
      | .iand => popII st (fun x y r => nxt (k, pc + 1, ls, lq, .int (x &&& y) :: r, h, cb, sb))
      | .ior => popII st (fun x y r => nxt (k, pc + 1, ls, lq, .int (x ||| y) :: r, h, cb, sb))
      | .ixor => popII st (fun x y r => nxt (k, pc + 1, ls, lq, .int (x ^^^ y) :: r, h, cb, sb))
      | .idiv => popII st (fun x y r => if y = 0 then none else nxt (k, pc + 1, ls, lq, .int (x / y) :: r, h, cb, sb))
      | .irem => popII st (fun x y r => if y = 0 then none else nxt (k, pc + 1, ls, lq, .int (x - x / y * y) :: r, h, cb, sb))
      | .ishl => popII st (fun x y r => nxt (k, pc + 1, ls, lq, .int (x <<< (y &&& 31)) :: r, h, cb, sb))
      | .ishr => popII st (fun x y r => nxt (k, pc + 1, ls, lq, .int (x >>> (y &&& 31)) :: r, h, cb, sb))
      | .iushr => popII st (fun x y r => nxt (k, pc + 1, ls, lq, .int (x.toUInt32 >>> (y.toUInt32 &&& Int32.toUInt32 31)).toInt32 :: r, h, cb, sb))
      | .i2l => popI st (fun x r => nxt (k, pc + 1, ls, lq, .long x.toInt64 :: r, h, cb, sb))
      | .l2i => popL st (fun x r => nxt (k, pc + 1, ls, lq, .int x.toInt32 :: r, h, cb, sb))
      | .ladd => popLL st (fun x y r => nxt (k, pc + 1, ls, lq, .long (x + y) :: r, h, cb, sb))
      | .lmul => popLL st (fun x y r => nxt (k, pc + 1, ls, lq, .long (x * y) :: r, h, cb, sb))
      | .land => popLL st (fun x y r => nxt (k, pc + 1, ls, lq, .long (x &&& y) :: r, h, cb, sb))
      | .lcmp => popLL st (fun x y r => nxt (k, pc + 1, ls, lq, .int (lg_cmp x y) :: r, h, cb, sb))
      | .dup => popV st (fun v r => nxt (k, pc + 1, ls, lq, v :: v :: r, h, cb, sb))
      | .dup2 => popV st (fun v r => popV r (fun w r' => nxt (k, pc + 1, ls, lq, v :: w :: v :: w :: r', h, cb, sb)))
      | .ifCond cn _ => popI st (fun x r => isN (nxt (k, a, ls, lq, r, h, cb, sb)) (nxt (k, pc + 3, ls, lq, r, h, cb, sb)) cn x 0)
      | .if_icmp cn _ => popII st (fun x y r => isN (nxt (k, a, ls, lq, r, h, cb, sb)) (nxt (k, pc + 3, ls, lq, r, h, cb, sb)) cn x y)
      | .goto _ => nxt (k, a, ls, lq, st, h, cb, sb)
      | .tableswitch d lo hi offs => popI st (fun x r => jmp pc (if x.toInt < lo ∨ hi < x.toInt then some d else offs[(x.toInt - lo).toNat]?) (fun t => nxt (k, t, ls, lq, r, h, cb, sb)))
      | .lookupswitch d ps => popI st (fun x r => jmp pc (some (Op.lookupswitch.offset ps.toList d x.toInt)) (fun t => nxt (k, t, ls, lq, r, h, cb, sb)))
      | .getfield _ => popR st (fun p r => if a = 20 then (if p = STRR then nxt (k, pc + 3, ls, lq, (if b = 0 then .int 0 else .ref BYTR) :: r, h, cb, sb) else none) else match hg h p with
        | some (.inr (ci, fs)) => if ci = a then (match fs[b]? with
          | some v => nxt (k, pc + 3, ls, lq, v :: r, h, cb, sb)
          | none => none) else none
        | _ => none)
      | .putfield _ => popV st (fun v s1 => popR s1 (fun p r => match hg h p with
        | some (.inr (ci, fs)) => if ci = a ∧ b < fs.length ∧ fldOk (TYF a b) v = true then nxt (k, pc + 3, ls, lq, r, h.set p (.inr (ci, fs.set b v)), cb, sb) else none
        | _ => none))
      | .iaload => popI st (fun j s1 => popR s1 (fun p r => if p = SCR then (if k = LAWM ∧ ¬ (j < 0 ∨ sc.1 ≤ j.toNatClampNeg) then nxt (k, pc + 1, ls, lq, .int (sc.2 j.toNatClampNeg) :: r, h, cb, sb) else none) else match hg h p with
        | some (.inl (n, f)) => if ¬ (j < 0 ∨ n ≤ j.toNatClampNeg) then nxt (k, pc + 1, ls, lq, .int (f j.toNatClampNeg) :: r, h, cb, sb) else none
        | _ => none))
      | .iastore => popII st (fun j x s1 => popR s1 (fun p r => match hg h p with
        | some (.inl (n, f)) => if ¬ (j < 0 ∨ n ≤ j.toNatClampNeg) then nxt (k, pc + 1, ls, lq, r, h.set p (.inl (n, upd f j.toNatClampNeg x)), cb, sb) else none
        | _ => none))
      | .arraylength => popR st (fun p r => if p = BYTR then nxt (k, pc + 1, ls, lq, .int 7 :: r, h, cb, sb) else if p = SCR then (if k = LAWM then nxt (k, pc + 1, ls, lq, .int (Int32.ofNat sc.1) :: r, h, cb, sb) else none) else match hg h p with
        | some (.inl (n, _)) => nxt (k, pc + 1, ls, lq, .int (Int32.ofNat n) :: r, h, cb, sb)
        | _ => none)
      | .new _ => if 1 ≤ cb ∧ NF a ≤ sb ∧ h.length < SCR then nxt (k, pc + 3, ls, lq, .ref h.length :: st, h ++ [.inr (a, (List.range (NF a)).map (fun j => defaultValue (TYF a j)))], cb - 1, sb - NF a) else none
      | .newarray _ => popI st (fun n r => if ¬ n < 0 ∧ n.toNatClampNeg ≤ 100 ∧ 1 ≤ cb ∧ n.toNatClampNeg ≤ sb ∧ h.length < SCR then nxt (k, pc + 2, ls, lq, .ref h.length :: r, h ++ [.inl (n.toNatClampNeg, fun _ => 0)], cb - 1, sb - n.toNatClampNeg) else none)
      | .invokevirtual _ => call true k pc ls lq st h cb sb b z.toNat
      | .invokestatic _ => if a = 99 then none else if a = 7 then popII st (fun x y r => if csum r ≤ 8 then nxt (k, pc + 3, ls, lq, .int (if y < x then y else x) :: r, h, cb, sb) else none) else if a = 6 then popII st (fun x y r => if csum r ≤ 8 then nxt (k, pc + 3, ls, lq, .int (if x < y then y else x) :: r, h, cb, sb) else none) else call false k pc ls lq st h cb sb b z.toNat
      | .invokespecial _ => if a = 5 then popR st (fun _ r => if csum r ≤ 8 then nxt (k, pc + 3, ls, lq, r, h, cb, sb) else none) else call true k pc ls lq st h cb sb b z.toNat
      | _ => none
def retE (c : Cf) : Option Ot := match c with
  | (k, pc, _, _, st, h, _, _) => match fetch k pc with
    | none => none
    | some (_, i, _, _, _, _, _) => match i with
      | .ireturn => (match st with
        | [.int x] => if retOk (RT k) x = true then some (some (.int x), h) else none
        | _ => none)
      | .lreturn => (match st with
        | [.long x] => if RT k = some .long then some (some (.long x), h) else none
        | _ => none)
      | .return_ => (match st with
        | [] => if RT k = none then some (none, h) else none
        | _ => none)
      | _ => none
def eff (sc : Nat × (Nat → Int32)) (c : Cf) : Option (Ot ⊕ (Cf ⊕ (Cf × Cf))) := match retE c with
  | some o => some (.inl o)
  | none => (effN sc c).map Sum.inr
def run (sc : Nat × (Nat → Int32)) : Nat → Cf → Option Ot
  | 0, _ => none
  | n + 1, c => match eff sc c with
    | none => none
    | some (.inl o) => some o
    | some (.inr (.inl c')) => run sc n c'
    | some (.inr (.inr (a, b))) => match run sc n a with
      | none => none
      | some o => run sc n (resume b o)
end
section
/-! HOW THE INTERPRETER'S PLACES STAND FOR CELLS: a value, a stack, an object, a heap, the locals -/
def RV (b : Nat → Nat) (ad : List Nat) (v w : Value) : Prop := match v with
  | .ref i => (SCR ≤ i ∧ w = .ref (b i)) ∨ (¬ SCR ≤ i ∧ ∃ a, ad[i]? = some a ∧ w = .ref a)
  | v => w = v
def RS (b : Nat → Nat) (ad : List Nat) : List Value → List Value → Prop
  | [], ws => ws = []
  | v :: t, ws => ∃ w u, ws = w :: u ∧ RV b ad v w ∧ RS b ad t u
def RO (b : Nat → Nat) (ad : List Nat) (tys : List (ClassId × FieldType)) (o : Ob) (e : va_E) : Prop := match o with
  | .inl q => ∃ cA, e = .inl (cA, q.1, .inl q.2) ∧ (cA, FieldType.int) ∈ tys
  | .inr q => ∃ gs, e = .inr (q.1, gs) ∧ RS b ad q.2 gs
def RH (b : Nat → Nat) (ad : List Nat) (tys : List (ClassId × FieldType)) (h : Hp) (ws : va_W) : Prop :=
  h.length = ad.length ∧ ws.length = ad.length ∧ ∀ (k : Nat) (o : Ob), h[k]? = some o → ∃ (a : Nat) (e : va_E), ad[k]? = some a ∧ ws[k]? = some (a, e) ∧ RO b ad tys o e
def RLo (b : Nat → Nat) (ad : List Nat) (nL : Nat) (ls : Ls) (lq : Lq) (lsA : Array Slot) : Prop :=
  ls.length = nL ∧ lsA.size = nL ∧ lv_wf lsA ∧ (∀ (i : Nat) (v : Value), ls[i]? = some (some v) → v.category = 1 ∧ ∃ w : Value, RV b ad v w ∧ lsA[i]? = some (.val w)) ∧ ∀ q ∈ lq, lsA[q.1]? = some (.val (.long q.2))
theorem RV.cat {b : Nat → Nat} {ad : List Nat} {v w : Value} (h : RV b ad v w) : w.category = v.category := by
  cases v with
  | ref i =>
    rcases h with ⟨-, rfl⟩ | ⟨-, a, -, rfl⟩ <;> rfl
  | _ => rw [show w = _ from h]
theorem RV.mono {b : Nat → Nat} {ad ad' : List Nat} (hm : ∀ (i a : Nat), ad[i]? = some a → ad'[i]? = some a) {v w : Value} (h : RV b ad v w) : RV b ad' v w := by
  cases v with
  | ref i =>
    rcases h with ⟨h1, h2⟩ | ⟨h1, a, h2, h3⟩
    · exact Or.inl ⟨h1, h2⟩
    · exact Or.inr ⟨h1, a, hm _ _ h2, h3⟩
  | _ => exact h
theorem RV.ref {b : Nat → Nat} {ad : List Nat} {i : Nat} {w : Value} (h : RV b ad (.ref i) w) : ∃ a, w = .ref a := by
  rcases h with ⟨-, h⟩ | ⟨-, a, -, h⟩
  · exact ⟨_, h⟩
  · exact ⟨_, h⟩
theorem RS.mono {b : Nat → Nat} {ad ad' : List Nat} (hm : ∀ (i a : Nat), ad[i]? = some a → ad'[i]? = some a) : ∀ {vs ws : List Value}, RS b ad vs ws → RS b ad' vs ws
  | [], _, h => h
  | _ :: _, _, ⟨w, u, h1, h2, h3⟩ => ⟨w, u, h1, h2.mono hm, RS.mono hm h3⟩
theorem RS.len {b : Nat → Nat} {ad : List Nat} : ∀ {vs ws : List Value}, RS b ad vs ws → ws.length = vs.length
  | [], _, h => by rw [show _ = [] from h]
  | _ :: _, _, ⟨w, u, h1, _, h3⟩ => by rw [h1, List.length_cons, List.length_cons, RS.len h3]
theorem RS.cs {b : Nat → Nat} {ad : List Nat} : ∀ {vs ws : List Value}, RS b ad vs ws → csum ws = csum vs
  | [], _, h => by rw [show _ = [] from h]
  | v :: t, _, ⟨w, u, h1, h2, h3⟩ => by
    have e := RS.cs h3
    subst h1
    simp only [csum, List.map_cons, List.sum_cons] at e ⊢
    rw [e, h2.cat]
theorem RS.get {b : Nat → Nat} {ad : List Nat} : ∀ {vs ws : List Value} {i : Nat} {v : Value}, RS b ad vs ws → vs[i]? = some v → ∃ w, ws[i]? = some w ∧ RV b ad v w
  | [], _, _, _, _, h => by simp at h
  | x :: t, _, 0, v, ⟨w, u, h1, h2, _⟩, h => by
    subst h1
    simp only [List.getElem?_cons_zero, Option.some.injEq] at h
    subst h
    exact ⟨w, rfl, h2⟩
  | x :: t, _, i + 1, v, ⟨w, u, h1, _, h3⟩, h => by
    subst h1
    simp only [List.getElem?_cons_succ] at h ⊢
    exact RS.get h3 h
theorem RS.set {b : Nat → Nat} {ad : List Nat} {v w : Value} (hv : RV b ad v w) : ∀ {vs ws : List Value} (i : Nat), RS b ad vs ws → RS b ad (vs.set i v) (ws.set i w)
  | [], ws, i, h => by rw [show ws = [] from h]; rfl
  | x :: t, _, 0, ⟨y, u, h1, h2, h3⟩ => by subst h1; exact ⟨w, u, rfl, hv, h3⟩
  | x :: t, _, i + 1, ⟨y, u, h1, h2, h3⟩ => by subst h1; exact ⟨y, u.set i w, rfl, h2, RS.set hv i h3⟩
theorem RS.drop {b : Nat → Nat} {ad : List Nat} : ∀ {vs ws : List Value} (i : Nat), RS b ad vs ws → RS b ad (vs.drop i) (ws.drop i)
  | [], ws, i, h => by rw [show ws = [] from h]; simp [RS]
  | x :: t, _, 0, h => h
  | x :: t, _, i + 1, ⟨y, u, h1, h2, h3⟩ => by subst h1; exact RS.drop i h3
theorem RS.take {b : Nat → Nat} {ad : List Nat} : ∀ {vs ws : List Value} (i : Nat), RS b ad vs ws → RS b ad (vs.take i) (ws.take i)
  | [], ws, i, h => by rw [show ws = [] from h]; simp [RS]
  | x :: t, _, 0, h => rfl
  | x :: t, _, i + 1, ⟨y, u, h1, h2, h3⟩ => by subst h1; exact ⟨y, u.take i, rfl, h2, RS.take i h3⟩
theorem RS.app {b : Nat → Nat} {ad : List Nat} : ∀ {v1 w1 v2 w2 : List Value}, RS b ad v1 w1 → RS b ad v2 w2 → RS b ad (v1 ++ v2) (w1 ++ w2)
  | [], w1, v2, w2, h, h2 => by rw [show w1 = [] from h]; exact h2
  | x :: t, _, v2, w2, ⟨y, u, h1, hv, h3⟩, h2 => by subst h1; exact ⟨y, u ++ w2, rfl, hv, RS.app h3 h2⟩
theorem RS.rev {b : Nat → Nat} {ad : List Nat} : ∀ {vs ws : List Value}, RS b ad vs ws → RS b ad vs.reverse ws.reverse
  | [], ws, h => by rw [show ws = [] from h]; rfl
  | x :: t, _, ⟨y, u, h1, hv, h3⟩ => by
    subst h1
    rw [List.reverse_cons, List.reverse_cons]
    exact RS.app (RS.rev h3) ⟨y, [], rfl, hv, rfl⟩
theorem RO.mono {b : Nat → Nat} {ad ad' : List Nat} {tys tys' : List (ClassId × FieldType)} (hm : ∀ (i a : Nat), ad[i]? = some a → ad'[i]? = some a) (ht : ∀ q ∈ tys, q ∈ tys') {o : Ob} {e : va_E} (h : RO b ad tys o e) : RO b ad' tys' o e := by
  cases o with
  | inl q =>
    obtain ⟨cA, h1, h2⟩ := h
    exact ⟨cA, h1, ht _ h2⟩
  | inr q =>
    obtain ⟨gs, h1, h2⟩ := h
    exact ⟨gs, h1, h2.mono hm⟩
theorem hg_some {h : Hp} {i : Nat} {o : Ob} (e : hg h i = some o) : ¬ SCR ≤ i ∧ h[i]? = some o := by
  unfold hg at e
  split at e
  · cases e
  · exact ⟨by assumption, e⟩
theorem RH.get {b : Nat → Nat} {ad : List Nat} {tys : List (ClassId × FieldType)} {h : Hp} {ws : va_W} (hR : RH b ad tys h ws) {i : Nat} {o : Ob} (e : hg h i = some o) {w : Value} (hv : RV b ad (.ref i) w) : ∃ a x, w = .ref a ∧ ad[i]? = some a ∧ ws[i]? = some (a, x) ∧ RO b ad tys o x := by
  obtain ⟨hn, e⟩ := hg_some e
  obtain ⟨a, x, h1, h2, h3⟩ := hR.2.2 i o e
  rcases hv with ⟨q, -⟩ | ⟨-, a', h4, h5⟩
  · exact absurd q hn
  · rw [h1] at h4
    cases h4
    exact ⟨a, x, h5, h1, h2, h3⟩
theorem RH.set {b : Nat → Nat} {ad : List Nat} {tys : List (ClassId × FieldType)} {h : Hp} {ws : va_W} (hR : RH b ad tys h ws) {i : Nat} {o : Ob} {a : Nat} {x : va_E} (ha : ad[i]? = some a) (ho : RO b ad tys o x) : RH b ad tys (h.set i o) (ws.set i (a, x)) := by
  refine ⟨by rw [List.length_set]; exact hR.1, by rw [List.length_set]; exact hR.2.1, fun k o' hk => ?_⟩
  by_cases hki : i = k
  · subst hki
    have hl : i < ad.length := (List.getElem?_eq_some_iff.mp ha).1
    rw [List.getElem?_set_self (by rw [hR.1]; exact hl)] at hk
    cases hk
    refine ⟨a, x, ha, ?_, ho⟩
    rw [List.getElem?_set_self (by rw [hR.2.1]; exact hl)]
  · rw [List.getElem?_set_ne hki] at hk
    obtain ⟨a', x', h1, h2, h3⟩ := hR.2.2 k o' hk
    exact ⟨a', x', h1, by rw [List.getElem?_set_ne hki]; exact h2, h3⟩
theorem ad_app {ad : List Nat} (q : Nat) : ∀ (i a : Nat), ad[i]? = some a → (ad ++ [q])[i]? = some a := by
  intro i a h
  rw [List.getElem?_append_left (List.getElem?_eq_some_iff.mp h).1]
  exact h
theorem RH.push {b : Nat → Nat} {ad : List Nat} {tys tys' : List (ClassId × FieldType)} {h : Hp} {ws : va_W} (hR : RH b ad tys h ws) (ht : ∀ q ∈ tys, q ∈ tys') {o : Ob} {q : Nat} {x : va_E} (ho : RO b (ad ++ [q]) tys' o x) : RH b (ad ++ [q]) tys' (h ++ [o]) (ws ++ [(q, x)]) := by
  refine ⟨by simp [hR.1], by simp [hR.2.1], fun k o' hk => ?_⟩
  rcases Nat.lt_or_ge k h.length with hl | hl
  · rw [List.getElem?_append_left hl] at hk
    obtain ⟨a', x', h1, h2, h3⟩ := hR.2.2 k o' hk
    refine ⟨a', x', ad_app q _ _ h1, ?_, h3.mono (ad_app q) ht⟩
    rw [List.getElem?_append_left (by rw [hR.2.1, ← hR.1]; exact hl)]
    exact h2
  · rw [List.getElem?_append_right hl] at hk
    have hz : k - h.length = 0 := by
      have := (List.getElem?_eq_some_iff.mp hk).1
      simp at this
      omega
    rw [hz] at hk
    simp at hk
    subst hk
    refine ⟨q, x, ?_, ?_, ho⟩
    · rw [List.getElem?_append_right (by rw [← hR.1]; exact hl), ← hR.1, hz]; rfl
    · rw [List.getElem?_append_right (by rw [hR.2.1, ← hR.1]; exact hl), hR.2.1, ← hR.1, hz]; rfl
theorem RV.new {b : Nat → Nat} {q n : Nat} {ad : List Nat} (hn : ad.length = n) (hs : n < SCR) : RV b (ad ++ [q]) (.ref n) (.ref q) := by
  refine Or.inr ⟨Nat.not_le.mpr hs, q, ?_, rfl⟩
  rw [List.getElem?_append_right (by omega), hn, Nat.sub_self]; rfl
def lvOf (lsA : Array Slot) : List (Nat × Value) := (List.range lsA.size).filterMap (fun i => match lsA[i]? with
  | some (Slot.val w) => some (i, w)
  | _ => none)
theorem lvOf_mem {lsA : Array Slot} {i : Nat} {w : Value} : (i, w) ∈ lvOf lsA ↔ lsA[i]? = some (.val w) := by
  unfold lvOf
  rw [List.mem_filterMap]
  constructor
  · rintro ⟨j, -, h⟩
    split at h
    · rename_i x hx
      simp only [Option.some.injEq, Prod.mk.injEq] at h
      obtain ⟨rfl, rfl⟩ := h
      exact hx
    · cases h
  · intro h
    refine ⟨i, List.mem_range.mpr (Array.getElem?_eq_some_iff.mp h).1, ?_⟩
    rw [h]
theorem RLo.has {b : Nat → Nat} {ad : List Nat} {nL : Nat} {ls : Ls} {lq : Lq} {lsA : Array Slot} (h : RLo b ad nL ls lq lsA) : lv_has lsA nL (lvOf lsA) := ⟨h.2.1, h.2.2.1, fun q hq => lvOf_mem.mp hq⟩
theorem RLo.mono {b : Nat → Nat} {ad ad' : List Nat} {nL : Nat} {ls : Ls} {lq : Lq} {lsA : Array Slot} (hm : ∀ (i a : Nat), ad[i]? = some a → ad'[i]? = some a) (h : RLo b ad nL ls lq lsA) : RLo b ad' nL ls lq lsA :=
  ⟨h.1, h.2.1, h.2.2.1, fun i v hv => by
    obtain ⟨h1, w, h2, h3⟩ := h.2.2.2.1 i v hv
    exact ⟨h1, w, h2.mono hm, h3⟩, h.2.2.2.2⟩
theorem RLo.i {b : Nat → Nat} {ad : List Nat} {nL : Nat} {ls : Ls} {lq : Lq} {lsA : Array Slot} (h : RLo b ad nL ls lq lsA) {i : Nat} {x : Int32} (e : ls[i]? = some (some (.int x))) : lsA[i]? = some (.val (.int x)) := by
  obtain ⟨-, w, h2, h3⟩ := h.2.2.2.1 i _ e
  rw [show w = .int x from h2] at h3
  exact h3
theorem RLo.r {b : Nat → Nat} {ad : List Nat} {nL : Nat} {ls : Ls} {lq : Lq} {lsA : Array Slot} (h : RLo b ad nL ls lq lsA) {i : Nat} {x : Nat} (e : ls[i]? = some (some (.ref x))) : ∃ a, RV b ad (.ref x) (.ref a) ∧ lsA[i]? = some (.val (.ref a)) := by
  obtain ⟨-, w, h2, h3⟩ := h.2.2.2.1 i _ e
  obtain ⟨a, rfl⟩ := h2.ref
  exact ⟨a, h2, h3⟩
theorem RLo.stor {b : Nat → Nat} {ad : List Nat} {nL : Nat} {ls : Ls} {lq : Lq} {lsA ls' : Array Slot} {n : Nat} {v w : Value} (h : RLo b ad nL ls lq lsA) (hv : RV b ad v w) (hc : v.category = 1) (hn : n < ls.length)
    (h' : lv_has ls' nL ((n, w) :: (lvOf lsA).filter (fun q => !(q.1 == n) && !(q.1 + 1 == n && q.2.category == 2)))) : RLo b ad nL (ls.set n (some v)) (lq.filter (fun q => !(q.1 == n) && !(q.1 + 1 == n))) ls' := by
  refine ⟨by rw [List.length_set]; exact h.1, h'.1, h'.2.1, fun i x hx => ?_, fun q hq => ?_⟩
  · by_cases hi : n = i
    · subst hi
      rw [List.getElem?_set_self hn] at hx
      cases hx
      exact ⟨hc, w, hv, h'.2.2 (n, w) List.mem_cons_self⟩
    · rw [List.getElem?_set_ne hi] at hx
      obtain ⟨h1, y, h2, h3⟩ := h.2.2.2.1 i x hx
      refine ⟨h1, y, h2, h'.2.2 (i, y) (List.mem_cons_of_mem _ (List.mem_filter.mpr ⟨lvOf_mem.mpr h3, ?_⟩))⟩
      have e1 : (i == n) = false := by simpa using fun q => hi q.symm
      have e2 : y.category = 1 := by rw [h2.cat]; exact h1
      simp [e1, e2]
  · obtain ⟨hq, hf⟩ := List.mem_filter.mp hq
    simp only [Bool.and_eq_true, Bool.not_eq_true'] at hf
    refine h'.2.2 (q.1, .long q.2) (List.mem_cons_of_mem _ (List.mem_filter.mpr ⟨lvOf_mem.mpr (h.2.2.2.2 q hq), ?_⟩))
    simp [hf.1, hf.2]
theorem RLo.storL {b : Nat → Nat} {ad : List Nat} {nL : Nat} {ls : Ls} {lq : Lq} {lsA ls' : Array Slot} {n : Nat} {x : Int64} (h : RLo b ad nL ls lq lsA) (hn : n + 1 < ls.length)
    (h' : lv_has ls' nL ((n, .long x) :: (lvOf lsA).filter (fun q => !(q.1 == n) && (!(q.1 == n + 1) && !(q.1 + 1 == n && q.2.category == 2))))) : RLo b ad nL ((ls.set n none).set (n + 1) none) ((n, x) :: lq.filter (fun q => !(q.1 == n) && (!(q.1 == n + 1) && !(q.1 + 1 == n)))) ls' := by
  refine ⟨by rw [List.length_set, List.length_set]; exact h.1, h'.1, h'.2.1, fun i v hv => ?_, fun q hq => ?_⟩
  · by_cases hi : n + 1 = i
    · subst hi
      rw [List.getElem?_set_self (by rw [List.length_set]; exact hn)] at hv
      cases hv
    · rw [List.getElem?_set_ne hi] at hv
      by_cases hj : n = i
      · subst hj
        rw [List.getElem?_set_self (by omega)] at hv
        cases hv
      · rw [List.getElem?_set_ne hj] at hv
        obtain ⟨h1, y, h2, h3⟩ := h.2.2.2.1 i v hv
        refine ⟨h1, y, h2, h'.2.2 (i, y) (List.mem_cons_of_mem _ (List.mem_filter.mpr ⟨lvOf_mem.mpr h3, ?_⟩))⟩
        have e2 : y.category = 1 := by rw [h2.cat]; exact h1
        simp [e2]
        exact ⟨fun q => hj q.symm, fun q => hi q.symm⟩
  · rcases List.mem_cons.mp hq with rfl | hq
    · exact h'.2.2 (n, .long x) List.mem_cons_self
    · obtain ⟨hq, hf⟩ := List.mem_filter.mp hq
      simp only [Bool.and_eq_true, Bool.not_eq_true'] at hf
      refine h'.2.2 (q.1, .long q.2) (List.mem_cons_of_mem _ (List.mem_filter.mpr ⟨lvOf_mem.mpr (h.2.2.2.2 q hq), ?_⟩))
      simp [hf.1, hf.2.1, hf.2.2]
end
section
/-! THE INTERPRETER IS SOUND, one instruction -/
theorem nxt_inj {c1 c2 : Cf} (h : nxt c1 = some (.inl c2)) : c1 = c2 := by cases h; rfl
theorem andT {a b : Bool} (h : (a && b) = true) : a = true ∧ b = true := by simpa using h
theorem ldI_some {ls : Ls} {n : Nat} {f : Int32 → Ef} {r} (h : ldI ls n f = some r) : ∃ x, ls[n]? = some (some (.int x)) ∧ f x = some r := by
  unfold ldI at h; split at h
  · rename_i x hx; exact ⟨x, hx, h⟩
  · cases h
theorem ldR_some {ls : Ls} {n : Nat} {f : Nat → Ef} {r} (h : ldR ls n f = some r) : ∃ x, ls[n]? = some (some (.ref x)) ∧ f x = some r := by
  unfold ldR at h; split at h
  · rename_i x hx; exact ⟨x, hx, h⟩
  · cases h
theorem ldL_some {lq : Lq} {n : Nat} {f : Int64 → Ef} {r} (h : ldL lq n f = some r) : ∃ x, (n, x) ∈ lq ∧ f x = some r := by
  unfold ldL at h; split at h
  · rename_i q hq
    have h1 := List.mem_of_find?_eq_some hq
    have h2 := List.find?_some hq
    obtain ⟨q1, q2⟩ := q
    have h3 : q1 = n := by simpa using h2
    subst h3
    exact ⟨q2, h1, h⟩
  · cases h
theorem popI_some {st : List Value} {f : Int32 → List Value → Ef} {r} (h : popI st f = some r) : ∃ x t, st = .int x :: t ∧ f x t = some r := by
  unfold popI at h; split at h
  · exact ⟨_, _, rfl, h⟩
  · cases h
theorem popII_some {st : List Value} {f : Int32 → Int32 → List Value → Ef} {r} (h : popII st f = some r) : ∃ x y t, st = .int y :: .int x :: t ∧ f x y t = some r := by
  unfold popII at h; split at h
  · exact ⟨_, _, _, rfl, h⟩
  · cases h
theorem popL_some {st : List Value} {f : Int64 → List Value → Ef} {r} (h : popL st f = some r) : ∃ x t, st = .long x :: t ∧ f x t = some r := by
  unfold popL at h; split at h
  · exact ⟨_, _, rfl, h⟩
  · cases h
theorem popLL_some {st : List Value} {f : Int64 → Int64 → List Value → Ef} {r} (h : popLL st f = some r) : ∃ x y t, st = .long y :: .long x :: t ∧ f x y t = some r := by
  unfold popLL at h; split at h
  · exact ⟨_, _, _, rfl, h⟩
  · cases h
theorem popR_some {st : List Value} {f : Nat → List Value → Ef} {r} (h : popR st f = some r) : ∃ x t, st = .ref x :: t ∧ f x t = some r := by
  unfold popR at h; split at h
  · exact ⟨_, _, rfl, h⟩
  · cases h
theorem popV_some {st : List Value} {f : Value → List Value → Ef} {r} (h : popV st f = some r) : ∃ v t, st = v :: t ∧ v.category = 1 ∧ f v t = some r := by
  unfold popV at h; split at h
  · exact ⟨_, _, rfl, rfl, h⟩
  · exact ⟨_, _, rfl, rfl, h⟩
  · cases h
theorem stor_some {ls : Ls} {lq : Lq} {n : Nat} {v : Value} {f : Ls → Lq → Ef} {r} (h : stor ls lq n v f = some r) : n < ls.length ∧ f (ls.set n (some v)) (lq.filter (fun q => !(q.1 == n) && !(q.1 + 1 == n))) = some r := by
  unfold stor at h; split at h
  · exact ⟨by assumption, h⟩
  · cases h
theorem storL_some {ls : Ls} {lq : Lq} {n : Nat} {x : Int64} {f : Ls → Lq → Ef} {r} (h : storL ls lq n x f = some r) : n + 1 < ls.length ∧ f ((ls.set n none).set (n + 1) none) ((n, x) :: lq.filter (fun q => !(q.1 == n) && (!(q.1 == n + 1) && !(q.1 + 1 == n)))) = some r := by
  unfold storL at h; split at h
  · exact ⟨by assumption, h⟩
  · cases h
theorem jmp_some {pc : Nat} {o : Option Int} {f : Nat → Ef} {r} (h : jmp pc o f = some r) : ∃ off : Int, o = some off ∧ (pc : Int) + off = ((((pc : Int) + off).toNat : Nat) : Int) ∧ f ((pc : Int) + off).toNat = some r := by
  unfold jmp at h; split at h
  · split at h
    · rename_i hn
      exact ⟨_, rfl, (Int.toNat_of_nonneg hn).symm, h⟩
    · cases h
  · cases h
theorem RS.i {b : Nat → Nat} {ad : List Nat} {x : Int32} {t ws : List Value} (h : RS b ad (.int x :: t) ws) : ∃ u, ws = .int x :: u ∧ RS b ad t u := by
  obtain ⟨w, u, h1, h2, h3⟩ := h
  rw [show w = .int x from h2] at h1
  exact ⟨u, h1, h3⟩
theorem RS.l {b : Nat → Nat} {ad : List Nat} {x : Int64} {t ws : List Value} (h : RS b ad (.long x :: t) ws) : ∃ u, ws = .long x :: u ∧ RS b ad t u := by
  obtain ⟨w, u, h1, h2, h3⟩ := h
  rw [show w = .long x from h2] at h1
  exact ⟨u, h1, h3⟩
theorem RS.r {b : Nat → Nat} {ad : List Nat} {x : Nat} {t ws : List Value} (h : RS b ad (.ref x :: t) ws) : ∃ a u, ws = .ref a :: u ∧ RV b ad (.ref x) (.ref a) ∧ RS b ad t u := by
  obtain ⟨w, u, h1, h2, h3⟩ := h
  obtain ⟨a, rfl⟩ := h2.ref
  exact ⟨a, u, h1, h2, h3⟩
theorem fld_ok {b : Nat → Nat} {ad : List Nat} {ty : FieldType} {v w : Value} (h : fldOk ty v = true) (hv : RV b ad v w) : narrow ty w = w ∧ fits ty w = true := by
  cases v with
  | int x =>
    rw [show w = .int x from hv]
    cases ty <;> first | exact ⟨rfl, rfl⟩ | (exfalso; simp [fldOk] at h; done) | skip
    have h : x = 0 ∨ x = 1 := by simpa [fldOk] using h
    rcases h with rfl | rfl <;> exact ⟨rfl, rfl⟩
  | long x =>
    rw [show w = .long x from hv]
    cases ty <;> first | exact ⟨rfl, rfl⟩ | (exfalso; simp [fldOk] at h; done)
  | ref i =>
    obtain ⟨a, rfl⟩ := hv.ref
    cases ty <;> first | exact ⟨rfl, rfl⟩ | (exfalso; simp [fldOk] at h; done)
  | _ => cases ty <;> exact absurd h (by simp [fldOk])
theorem vw_at : ∀ a, a < 9 → vwCl[a]? = some (RC a, TT a, NF a) := fun a h => match a, h with
  | 0, _ => rfl | 1, _ => rfl | 2, _ => rfl | 3, _ => rfl | 4, _ => rfl | 5, _ => rfl | 6, _ => rfl | 7, _ => rfl | 8, _ => rfl
  | n + 9, h => absurd h (by omega)
theorem tyf_ok : ∀ a, a < 9 → ∀ k, k < NF a → parseFieldDescriptor (TT a k).2.2.1 = some (TYF a k) := fun a h => match a, h with
  | 0, _ => tyX0_ok | 1, _ => tyX1_ok | 2, _ => tyX2_ok | 3, _ => tyX3_ok | 4, _ => tyX4_ok | 5, _ => tyX5_ok | 6, _ => tyX6_ok | 7, _ => tyX7_ok | 8, _ => tyX8_ok
  | n + 9, h => absurd h (by omega)
theorem nmf_ok : ∀ a, a < 9 → ∀ x, x < NF a → ∀ y, y < NF a → x ≠ y → (TT a x).2.1 ≠ (TT a y).2.1 := fun a h => match a, h with
  | 0, _ => nmX0 | 1, _ => nmX1 | 2, _ => nmX2 | 3, _ => nmX3 | 4, _ => nmX4 | 5, _ => nmX5 | 6, _ => nmX6 | 7, _ => nmX7 | 8, _ => nmX8
  | n + 9, h => absurd h (by omega)
theorem lay_in : ∀ a, a < 9 → ∀ w ∈ u_ws (RC a) (TT a) (NF a), w ∈ GW := by
  intro a ha w hw
  obtain ⟨j, hj, rfl⟩ := List.mem_map.mp hw
  have h2 := List.all_eq_true.mp (List.all_eq_true.mp ck_lay2 a (List.mem_range.mpr ha)) j hj
  obtain ⟨q, hq, h3⟩ := List.any_eq_true.mp h2
  have h4 := List.all_eq_true.mp ck_lay q hq
  have h5 : q.1 = a ∧ q.2.1 = j := by simpa using h3
  rw [h5.1, h5.2] at h4
  refine wat_in h4 ?_
  unfold u_lay
  split <;> rfl
/-- the String constant that is asked for a place, its bytes, the static that is read on the way -/
def SWp (b : Nat → Nat) (A : Nat → Prop) (U : State) (H : Heap) : Prop := vk_R RX2 39 ".#mbfwv" (b STRR) U ∧ vk_S 1 [7] [BYTES] (fun _ => b STRR) (fun _ => b BYTR) A U H ∧ va_Z "java/lang/String" "COMPACT_STRINGS" "Z" (.int 1) A U H
def CTX (p : Program) (R : Room) (s : State) (m : MethodId) (args : Array Value) (meth : Method) (c : Code) (k : Nat) (sc : Nat × (Nat → Int32)) (b : Nat → Nat) (H0 : Heap) (A : Nat → Prop) : Prop :=
  p.tables.exec = Jvm.exec ∧ c.code = BC k ∧ c.maxLocals = NL k ∧ s.vm.findClass (RC (CK k)) = some m.cls ∧ (∀ w ∈ GW, w.before args s = true) ∧ ((∀ w ∈ NWL, va_Nw w s) ∧ SWp b A s s.heap ∧ H0 = s.heap) ∧ (¬ k = LAWM → meth.name = (YN k).name) ∧ (∀ q, H0.size ≤ q → A q) ∧ (k = LAWM → va_X (b SCR) sc.1 sc.2 s H0 ∧ b SCR < H0.size ∧ ¬ A (b SCR)) ∧ RK k ≤ R.frames ∧ 30 * RK k ≤ R.locals ∧ MC k ≤ R.cells ∧ MS k ≤ R.slots
def OKC (p : Program) (l : Launch) (e : Env) (R : Room) (s : State) (m : MethodId) (args : Array Value) (below : List Frame) (meth : Method) (c : Code) (D : va_G) (k : Nat) (b : Nat → Nat) (ad0 : List Nat) (H0 : Heap) (A : Nat → Prop) (Q : State → Prop) (cf : Cf) : Prop := match cf with
  | (k', pc, ls, lq, st, h, cb, sb) => k' = k → ∀ (ad : List Nat) (tys : List (ClassId × FieldType)) (ws : va_W) (H : Heap) (locs : List Loc) (lsA : Array Slot) (stA : List Value) (cells slots : Nat), (∀ (i a : Nat), ad0[i]? = some a → ad[i]? = some a) → RLo b ad (NL k) ls lq lsA → RS b ad st stA → RH b ad tys h ws → va_K D vwCl tys s → va_P D vwCl ws H → va_D A ws → va_S A H0 H locs → cells + cb ≤ MC k → slots + sb ≤ MS k → W p l e R s m args below meth c H locs cells slots Q (F0 m pc lsA stA)

theorem call_nn (recv : Bool) (k pc : Nat) (ls : Ls) (lq : Lq) (st : List Value) (h : Hp) (cb sb b n : Nat) (c' : Cf) : ¬ call recv k pc ls lq st h cb sb b n = some (.inl c') := by
  intro E
  unfold call at E
  dsimp only at E
  cases recv <;> (simp only [Bool.false_eq_true, if_false, if_true] at E; split at E <;> cases E)
theorem RS_dflt {b : Nat → Nat} {ad : List Nat} (f : Nat → FieldType) : ∀ (l : List Nat), RS b ad (l.map (fun j => defaultValue (f j))) (l.map (fun j => defaultValue (f j)))
  | [] => rfl
  | x :: t => ⟨_, _, rfl, by cases h : f x <;> (show RV b ad (defaultValue (f x)) (defaultValue (f x)); rw [h]; exact (rfl : _ = _)), RS_dflt f t⟩
theorem spec5 {k b c idx : Nat} {z : Int} (h : ((5 == 5 && wat c (.methodLink (RC (CK k)) idx objectInit)) || (iok k b z && decide ((YN b).name = "<init>") && decide (RT b = none) && wat (PIn b) (.instanceMethod (YN b)) && ((5 == 3 && wat c (.methodLink (RC (CK k)) idx (YN b))) || (5 == 4 && decide (NWL[c]? = some (.methodLinkNest (RC (CK k)) idx (YN b) "MirrorClerks")))))) = true) : wat c (.methodLink (RC (CK k)) idx objectInit) = true := by
  simpa using h
theorem stat6 {k b c idx : Nat} {z : Int} (h : (6 == 99 || (6 == 6 && wat c (.methodLink (RC (CK k)) idx Lib.Math.max.name)) || (6 == 7 && wat c (.methodLink (RC (CK k)) idx Lib.Math.min.name)) || (iok k b z && wat (PSt b) (.static (YN b)) && ((6 == 1 && wat c (.methodLink (RC (CK k)) idx (YN b))) || (6 == 2 && decide (NWL[c]? = some (.methodLinkNest (RC (CK k)) idx (YN b) "MirrorClerks")))))) = true) : wat c (.methodLink (RC (CK k)) idx Lib.Math.max.name) = true := by
  simpa using h
theorem stat7 {k b c idx : Nat} {z : Int} (h : (7 == 99 || (7 == 6 && wat c (.methodLink (RC (CK k)) idx Lib.Math.max.name)) || (7 == 7 && wat c (.methodLink (RC (CK k)) idx Lib.Math.min.name)) || (iok k b z && wat (PSt b) (.static (YN b)) && ((7 == 1 && wat c (.methodLink (RC (CK k)) idx (YN b))) || (7 == 2 && decide (NWL[c]? = some (.methodLinkNest (RC (CK k)) idx (YN b) "MirrorClerks")))))) = true) : wat c (.methodLink (RC (CK k)) idx Lib.Math.min.name) = true := by
  simpa using h
theorem gf20 {k b c idx : Nat} (h : ((20 == 20 && ((b == 0 && wat c (.fieldLink (RC (CK k)) idx "java/lang/String" "coder" "B")) || (b == 1 && wat c (.fieldLink (RC (CK k)) idx "java/lang/String" "value" "[B")))) || (decide (b < NF 20) && decide (20 < 9) && wat c (.fieldLink (RC (CK k)) idx (TT 20 b).1 (TT 20 b).2.1 (TT 20 b).2.2.1))) = true) : (b = 0 ∧ wat c (.fieldLink (RC (CK k)) idx "java/lang/String" "coder" "B") = true) ∨ (b = 1 ∧ wat c (.fieldLink (RC (CK k)) idx "java/lang/String" "value" "[B") = true) := by
  simpa using h
theorem gfN {k a b c idx : Nat} (h : ((a == 20 && ((b == 0 && wat c (.fieldLink (RC (CK k)) idx "java/lang/String" "coder" "B")) || (b == 1 && wat c (.fieldLink (RC (CK k)) idx "java/lang/String" "value" "[B")))) || (decide (b < NF a) && decide (a < 9) && wat c (.fieldLink (RC (CK k)) idx (TT a b).1 (TT a b).2.1 (TT a b).2.2.1))) = true) (ha : ¬ a = 20) : a < 9 ∧ b < NF a ∧ wat c (.fieldLink (RC (CK k)) idx (TT a b).1 (TT a b).2.1 (TT a b).2.2.1) = true := by
  have h1 : (a == 20) = false := by simpa using ha
  rw [h1, Bool.false_and, Bool.false_or] at h
  obtain ⟨h, h3⟩ := andT h
  obtain ⟨h1, h2⟩ := andT h
  exact ⟨of_decide_eq_true h2, of_decide_eq_true h1, h3⟩
theorem rk_pos {k : Nat} (hk : chkM k = true) : 0 < RK k := of_decide_eq_true (andT hk).2
set_option maxRecDepth 100000 in
set_option maxHeartbeats 40000000 in
theorem step_ok {p : Program} {l : Launch} {e : Env} {R : Room} {s : State} {m : MethodId} {args : Array Value} {below : List Frame} {meth : Method} {c : Code} {D : va_G} {k : Nat} {sc : Nat × (Nat → Int32)} {b : Nat → Nat} {ad0 : List Nat} {H0 : Heap} {A : Nat → Prop} {Q : State → Prop} (C : CTX p R s m args meth c k sc b H0 A) (hRK : 0 < RK k)
    {pc : Nat} {ls : Ls} {lq : Lq} {st : List Value} {h : Hp} {cb sb : Nat} {c1 : Cf} (E : effN sc (k, pc, ls, lq, st, h, cb, sb) = some (.inl c1)) (K : OKC p l e R s m args below meth c D k b ad0 H0 A Q c1) : OKC p l e R s m args below meth c D k b ad0 H0 A Q (k, pc, ls, lq, st, h, cb, sb) := by
  intro _ ad tys ws H locs lsA stA cells slots hM hL hS hH hK hP hD hV hcb hsb
  obtain ⟨hx, hb, hml, hown, hts, ⟨hnw, hSW, hH0⟩, hname, hA, hX, hR1, hR2, hR3, hR4⟩ := C
  unfold effN at E
  dsimp only at E
  split at E
  · cases E
  rename_i pc0 i len a b2 c0 z hf
  obtain ⟨rfl, hC⟩ := fetch_chk hf
  cases i with
  | iconst n =>
    dsimp only at E
    obtain ⟨hd, hl⟩ := andT hC; have hd := of_decide_eq_true hd; obtain rfl := eq_of_beq hl
    obtain rfl := nxt_inj E
    exact lv_iconst hx hb hd rfl (K rfl ad tys ws H locs _ _ cells slots hM hL ⟨_, _, rfl, rfl, hS⟩ hH hK hP hD hV hcb hsb)
  | bipush n =>
    dsimp only at E
    obtain ⟨hd, hl⟩ := andT hC; have hd := of_decide_eq_true hd; obtain rfl := eq_of_beq hl
    obtain rfl := nxt_inj E
    exact lv_bipush hx hb hd rfl (K rfl ad tys ws H locs _ _ cells slots hM hL ⟨_, _, rfl, rfl, hS⟩ hH hK hP hD hV hcb hsb)
  | sipush n =>
    dsimp only at E
    obtain ⟨hd, hl⟩ := andT hC; have hd := of_decide_eq_true hd; obtain rfl := eq_of_beq hl
    obtain rfl := nxt_inj E
    exact lv_sipush hx hb hd rfl (K rfl ad tys ws H locs _ _ cells slots hM hL ⟨_, _, rfl, rfl, hS⟩ hH hK hP hD hV hcb hsb)
  | lconst n =>
    dsimp only at E
    obtain ⟨hd, hl⟩ := andT hC; have hd := of_decide_eq_true hd; obtain rfl := eq_of_beq hl
    obtain rfl := nxt_inj E
    exact lv_lconst hx hb hd rfl (K rfl ad tys ws H locs _ _ cells slots hM hL ⟨_, _, rfl, rfl, hS⟩ hH hK hP hD hV hcb hsb)
  | ldc ix =>
    dsimp only at E
    obtain ⟨hd, hC⟩ := andT hC; have hd := of_decide_eq_true hd; obtain ⟨hl, hC⟩ := andT hC; obtain rfl := eq_of_beq hl
    split at E
    · rename_i h7
      subst h7
      obtain rfl := nxt_inj E
      rcases Bool.or_eq_true_iff.mp hC with hC | hC
      · obtain ⟨hC, hc2⟩ := andT hC; obtain ⟨-, hix⟩ := andT hC; obtain rfl := eq_of_beq hix
        have hk2 := eq_of_beq hc2
        rw [hk2] at hown
        exact va_ldcS hx hb hown hSW.1 hd (K rfl ad tys ws H locs _ _ cells slots hM hL ⟨_, _, rfl, Or.inl ⟨by decide, rfl⟩, hS⟩ hH hK hP hD hV hcb hsb)
      · exact absurd (andT hC).1 (by decide)
    · rename_i h7
      obtain rfl := nxt_inj E
      rcases Bool.or_eq_true_iff.mp hC with hC | hC
      · exact absurd (eq_of_beq (andT (andT hC).1).1) h7
      · exact lv_ldc hx hb hown (hts _ (wat_in (andT hC).2 rfl)) hd (K rfl ad tys ws H locs _ _ cells slots hM hL ⟨_, _, rfl, rfl, hS⟩ hH hK hP hD hV hcb hsb)
  | getstatic ix =>
    dsimp only at E
    obtain ⟨hd, hC⟩ := andT hC; have hd := of_decide_eq_true hd; obtain ⟨hl, hC⟩ := andT hC; obtain rfl := eq_of_beq hl
    obtain rfl := nxt_inj E
    exact va_gets hx hb hSW.2.2 (by rw [← hH0]; exact hV) hown (hts _ (wat_in hC rfl)) (fun _ h => h) hd (K rfl ad tys ws H locs _ _ cells slots hM hL ⟨_, _, rfl, rfl, hS⟩ hH hK hP hD hV hcb hsb)
  | baload =>
    dsimp only at E
    obtain ⟨hd, hl⟩ := andT hC; have hd := of_decide_eq_true hd; obtain rfl := eq_of_beq hl
    obtain ⟨j, t0, rfl, E11⟩ := popI_some E; replace E := E11; try dsimp only at E
    obtain ⟨i, t, rfl, E12⟩ := popR_some E; replace E := E12; try dsimp only at E
    obtain ⟨u0, rfl, hS13⟩ := hS.i; replace hS := hS13
    obtain ⟨a1, u1, rfl, hr, hS14⟩ := hS.r; replace hS := hS14
    split at E
    · rename_i hj
      obtain ⟨rfl, hj⟩ := hj
      obtain rfl := nxt_inj E
      rcases hr with ⟨-, hr⟩ | ⟨hr, -⟩
      · cases hr; exact va_tb hx hb (hSW.2.1.1 0 (by decide)).2.2.2 (by rw [← hH0]; exact hV) hj rfl hd (K rfl ad tys ws H locs _ _ cells slots hM hL ⟨_, _, rfl, rfl, hS⟩ hH hK hP hD hV hcb hsb)
      · exact absurd (by decide) hr
    · cases E
  | i2b =>
    dsimp only at E
    obtain ⟨hd, hl⟩ := andT hC; have hd := of_decide_eq_true hd; obtain rfl := eq_of_beq hl
    obtain ⟨x, t, rfl, E15⟩ := popI_some E; replace E := E15; try dsimp only at E
    obtain rfl := nxt_inj E
    obtain ⟨u1, rfl, hS16⟩ := hS.i; replace hS := hS16
    exact lv_i2b hx hb hd rfl (K rfl ad tys ws H locs _ _ cells slots hM hL ⟨_, _, rfl, rfl, hS⟩ hH hK hP hD hV hcb hsb)
  | i2c =>
    dsimp only at E
    obtain ⟨hd, hl⟩ := andT hC; have hd := of_decide_eq_true hd; obtain rfl := eq_of_beq hl
    obtain ⟨x, t, rfl, E17⟩ := popI_some E; replace E := E17; try dsimp only at E
    obtain rfl := nxt_inj E
    obtain ⟨u1, rfl, hS18⟩ := hS.i; replace hS := hS18
    exact lv_i2c hx hb hd rfl (K rfl ad tys ws H locs _ _ cells slots hM hL ⟨_, _, rfl, rfl, hS⟩ hH hK hP hD hV hcb hsb)
  | ldc_w ix =>
    dsimp only at E
    obtain ⟨hd, hC⟩ := andT hC; have hd := of_decide_eq_true hd; obtain ⟨hl, hC⟩ := andT hC; obtain rfl := eq_of_beq hl
    obtain rfl := nxt_inj E
    exact lv_ldcw hx hb hown (hts _ (wat_in hC rfl)) hd (K rfl ad tys ws H locs _ _ cells slots hM hL ⟨_, _, rfl, rfl, hS⟩ hH hK hP hD hV hcb hsb)
  | ldc2_w ix =>
    dsimp only at E
    obtain ⟨hd, hC⟩ := andT hC; have hd := of_decide_eq_true hd; obtain ⟨hl, hC⟩ := andT hC; obtain rfl := eq_of_beq hl
    obtain rfl := nxt_inj E
    exact lv_ldc2 hx hb hown (hts _ (wat_in hC rfl)) hd (K rfl ad tys ws H locs _ _ cells slots hM hL ⟨_, _, rfl, rfl, hS⟩ hH hK hP hD hV hcb hsb)
  | iload n =>
    dsimp only at E
    obtain ⟨hd, hl⟩ := andT hC; have hd := of_decide_eq_true hd; obtain rfl := eq_of_beq hl
    obtain ⟨x, hx1, E19⟩ := ldI_some E; replace E := E19; try dsimp only at E
    obtain rfl := nxt_inj E
    exact lv_iload hx hb hd (hL.i hx1) (K rfl ad tys ws H locs _ _ cells slots hM hL ⟨_, _, rfl, rfl, hS⟩ hH hK hP hD hV hcb hsb)
  | iload_n n =>
    dsimp only at E
    obtain ⟨hd, hl⟩ := andT hC; have hd := of_decide_eq_true hd; obtain rfl := eq_of_beq hl
    obtain ⟨x, hx1, E20⟩ := ldI_some E; replace E := E20; try dsimp only at E
    obtain rfl := nxt_inj E
    exact lv_iload_n hx hb hd rfl (hL.i hx1) (K rfl ad tys ws H locs _ _ cells slots hM hL ⟨_, _, rfl, rfl, hS⟩ hH hK hP hD hV hcb hsb)
  | aload n =>
    dsimp only at E
    obtain ⟨hd, hl⟩ := andT hC; have hd := of_decide_eq_true hd; obtain rfl := eq_of_beq hl
    obtain ⟨x, hx1, E21⟩ := ldR_some E; replace E := E21; try dsimp only at E
    obtain rfl := nxt_inj E
    obtain ⟨a1, hr, hl1⟩ := hL.r hx1
    exact lv_aload hx hb hd hl1 (K rfl ad tys ws H locs _ _ cells slots hM hL ⟨_, _, rfl, hr, hS⟩ hH hK hP hD hV hcb hsb)
  | aload_n n =>
    dsimp only at E
    obtain ⟨hd, hl⟩ := andT hC; have hd := of_decide_eq_true hd; obtain rfl := eq_of_beq hl
    obtain ⟨x, hx1, E22⟩ := ldR_some E; replace E := E22; try dsimp only at E
    obtain rfl := nxt_inj E
    obtain ⟨a1, hr, hl1⟩ := hL.r hx1
    exact lv_aload_n hx hb hd rfl hl1 (K rfl ad tys ws H locs _ _ cells slots hM hL ⟨_, _, rfl, hr, hS⟩ hH hK hP hD hV hcb hsb)
  | lload n =>
    dsimp only at E
    obtain ⟨hd, hl⟩ := andT hC; have hd := of_decide_eq_true hd; obtain rfl := eq_of_beq hl
    obtain ⟨x, hx1, E23⟩ := ldL_some E; replace E := E23; try dsimp only at E
    obtain rfl := nxt_inj E
    exact lv_lload hx hb hd (hL.2.2.2.2 _ hx1) (K rfl ad tys ws H locs _ _ cells slots hM hL ⟨_, _, rfl, rfl, hS⟩ hH hK hP hD hV hcb hsb)
  | lload_n n =>
    dsimp only at E
    obtain ⟨hd, hl⟩ := andT hC; have hd := of_decide_eq_true hd; obtain rfl := eq_of_beq hl
    obtain ⟨x, hx1, E24⟩ := ldL_some E; replace E := E24; try dsimp only at E
    obtain rfl := nxt_inj E
    exact lv_lload_n hx hb hd rfl (hL.2.2.2.2 _ hx1) (K rfl ad tys ws H locs _ _ cells slots hM hL ⟨_, _, rfl, rfl, hS⟩ hH hK hP hD hV hcb hsb)
  | istore n =>
    dsimp only at E
    obtain ⟨hd, hl⟩ := andT hC; have hd := of_decide_eq_true hd; obtain rfl := eq_of_beq hl
    obtain ⟨x, t, rfl, E25⟩ := popI_some E; replace E := E25; try dsimp only at E
    obtain ⟨hn, E26⟩ := stor_some E; replace E := E26; try dsimp only at E
    obtain rfl := nxt_inj E
    obtain ⟨u, rfl, hS27⟩ := hS.i; replace hS := hS27
    refine lv_istore hx hb hd hL.has (by rw [← hL.1]; exact hn) rfl (fun ls1 hl1 => ?_)
    exact K rfl ad tys ws H locs ls1 _ cells slots hM (hL.stor rfl rfl hn hl1) hS hH hK hP hD hV hcb hsb
  | istore_n n =>
    dsimp only at E
    obtain ⟨hd, hl⟩ := andT hC; have hd := of_decide_eq_true hd; obtain rfl := eq_of_beq hl
    obtain ⟨x, t, rfl, E28⟩ := popI_some E; replace E := E28; try dsimp only at E
    obtain ⟨hn, E29⟩ := stor_some E; replace E := E29; try dsimp only at E
    obtain rfl := nxt_inj E
    obtain ⟨u, rfl, hS30⟩ := hS.i; replace hS := hS30
    refine lv_istore_n hx hb hd rfl hL.has (by rw [← hL.1]; exact hn) rfl (fun ls1 hl1 => ?_)
    exact K rfl ad tys ws H locs ls1 _ cells slots hM (hL.stor rfl rfl hn hl1) hS hH hK hP hD hV hcb hsb
  | astore n =>
    dsimp only at E
    obtain ⟨hd, hl⟩ := andT hC; have hd := of_decide_eq_true hd; obtain rfl := eq_of_beq hl
    obtain ⟨x, t, rfl, E31⟩ := popR_some E; replace E := E31; try dsimp only at E
    obtain ⟨hn, E32⟩ := stor_some E; replace E := E32; try dsimp only at E
    obtain rfl := nxt_inj E
    obtain ⟨a1, u, rfl, hr, hS33⟩ := hS.r; replace hS := hS33
    refine lv_astore hx hb hd hL.has (by rw [← hL.1]; exact hn) rfl (fun ls1 hl1 => ?_)
    exact K rfl ad tys ws H locs ls1 _ cells slots hM (hL.stor hr rfl hn hl1) hS hH hK hP hD hV hcb hsb
  | astore_n n =>
    dsimp only at E
    obtain ⟨hd, hl⟩ := andT hC; have hd := of_decide_eq_true hd; obtain rfl := eq_of_beq hl
    obtain ⟨x, t, rfl, E34⟩ := popR_some E; replace E := E34; try dsimp only at E
    obtain ⟨hn, E35⟩ := stor_some E; replace E := E35; try dsimp only at E
    obtain rfl := nxt_inj E
    obtain ⟨a1, u, rfl, hr, hS36⟩ := hS.r; replace hS := hS36
    refine lv_astore_n hx hb hd rfl hL.has (by rw [← hL.1]; exact hn) rfl (fun ls1 hl1 => ?_)
    exact K rfl ad tys ws H locs ls1 _ cells slots hM (hL.stor hr rfl hn hl1) hS hH hK hP hD hV hcb hsb
  | lstore n =>
    dsimp only at E
    obtain ⟨hd, hl⟩ := andT hC; have hd := of_decide_eq_true hd; obtain rfl := eq_of_beq hl
    obtain ⟨x, t, rfl, E37⟩ := popL_some E; replace E := E37; try dsimp only at E
    obtain ⟨hn, E38⟩ := storL_some E; replace E := E38; try dsimp only at E
    obtain rfl := nxt_inj E
    obtain ⟨u, rfl, hS39⟩ := hS.l; replace hS := hS39
    refine lv_lstore hx hb hd hL.has (by rw [← hL.1]; exact hn) rfl (fun ls1 hl1 => ?_)
    exact K rfl ad tys ws H locs ls1 _ cells slots hM (hL.storL hn hl1) hS hH hK hP hD hV hcb hsb
  | lstore_n n =>
    dsimp only at E
    obtain ⟨hd, hl⟩ := andT hC; have hd := of_decide_eq_true hd; obtain rfl := eq_of_beq hl
    obtain ⟨x, t, rfl, E40⟩ := popL_some E; replace E := E40; try dsimp only at E
    obtain ⟨hn, E41⟩ := storL_some E; replace E := E41; try dsimp only at E
    obtain rfl := nxt_inj E
    obtain ⟨u, rfl, hS42⟩ := hS.l; replace hS := hS42
    refine lv_lstore_n hx hb hd rfl hL.has (by rw [← hL.1]; exact hn) rfl (fun ls1 hl1 => ?_)
    exact K rfl ad tys ws H locs ls1 _ cells slots hM (hL.storL hn hl1) hS hH hK hP hD hV hcb hsb
  | iinc n d =>
    dsimp only at E
    obtain ⟨hd, hl⟩ := andT hC; have hd := of_decide_eq_true hd; obtain rfl := eq_of_beq hl
    obtain ⟨x, hx1, E43⟩ := ldI_some E; replace E := E43; try dsimp only at E
    obtain ⟨hn, E44⟩ := stor_some E; replace E := E44; try dsimp only at E
    obtain rfl := nxt_inj E
    obtain ⟨j, hj⟩ := List.getElem?_of_mem (lvOf_mem.mpr (hL.i hx1))
    refine lv_iinc hx hb hd hL.has hj rfl (by rw [← hL.1]; exact hn) rfl (fun ls1 hl1 => ?_)
    exact K rfl ad tys ws H locs ls1 _ cells slots hM (hL.stor rfl rfl hn hl1) hS hH hK hP hD hV hcb hsb
  | iadd =>
    dsimp only at E
    obtain ⟨hd, hl⟩ := andT hC; have hd := of_decide_eq_true hd; obtain rfl := eq_of_beq hl
    obtain ⟨x, y, t, rfl, E45⟩ := popII_some E; replace E := E45; try dsimp only at E
    obtain rfl := nxt_inj E
    obtain ⟨u1, rfl, hS46⟩ := hS.i; replace hS := hS46
    obtain ⟨u2, rfl, hS47⟩ := hS.i; replace hS := hS47
    exact lv_iadd hx hb hd (K rfl ad tys ws H locs _ _ cells slots hM hL ⟨_, _, rfl, rfl, hS⟩ hH hK hP hD hV hcb hsb)
  | isub =>
    dsimp only at E
    obtain ⟨hd, hl⟩ := andT hC; have hd := of_decide_eq_true hd; obtain rfl := eq_of_beq hl
    obtain ⟨x, y, t, rfl, E48⟩ := popII_some E; replace E := E48; try dsimp only at E
    obtain rfl := nxt_inj E
    obtain ⟨u1, rfl, hS49⟩ := hS.i; replace hS := hS49
    obtain ⟨u2, rfl, hS50⟩ := hS.i; replace hS := hS50
    exact lv_isub hx hb hd (K rfl ad tys ws H locs _ _ cells slots hM hL ⟨_, _, rfl, rfl, hS⟩ hH hK hP hD hV hcb hsb)
  | imul =>
    dsimp only at E
    obtain ⟨hd, hl⟩ := andT hC; have hd := of_decide_eq_true hd; obtain rfl := eq_of_beq hl
    obtain ⟨x, y, t, rfl, E51⟩ := popII_some E; replace E := E51; try dsimp only at E
    obtain rfl := nxt_inj E
    obtain ⟨u1, rfl, hS52⟩ := hS.i; replace hS := hS52
    obtain ⟨u2, rfl, hS53⟩ := hS.i; replace hS := hS53
    exact lv_imul hx hb hd (K rfl ad tys ws H locs _ _ cells slots hM hL ⟨_, _, rfl, rfl, hS⟩ hH hK hP hD hV hcb hsb)
  | iand =>
    dsimp only at E
    obtain ⟨hd, hl⟩ := andT hC; have hd := of_decide_eq_true hd; obtain rfl := eq_of_beq hl
    obtain ⟨x, y, t, rfl, E54⟩ := popII_some E; replace E := E54; try dsimp only at E
    obtain rfl := nxt_inj E
    obtain ⟨u1, rfl, hS55⟩ := hS.i; replace hS := hS55
    obtain ⟨u2, rfl, hS56⟩ := hS.i; replace hS := hS56
    exact lv_iand hx hb hd (K rfl ad tys ws H locs _ _ cells slots hM hL ⟨_, _, rfl, rfl, hS⟩ hH hK hP hD hV hcb hsb)
  | ior =>
    dsimp only at E
    obtain ⟨hd, hl⟩ := andT hC; have hd := of_decide_eq_true hd; obtain rfl := eq_of_beq hl
    obtain ⟨x, y, t, rfl, E57⟩ := popII_some E; replace E := E57; try dsimp only at E
    obtain rfl := nxt_inj E
    obtain ⟨u1, rfl, hS58⟩ := hS.i; replace hS := hS58
    obtain ⟨u2, rfl, hS59⟩ := hS.i; replace hS := hS59
    exact lv_ior hx hb hd (K rfl ad tys ws H locs _ _ cells slots hM hL ⟨_, _, rfl, rfl, hS⟩ hH hK hP hD hV hcb hsb)
  | ixor =>
    dsimp only at E
    obtain ⟨hd, hl⟩ := andT hC; have hd := of_decide_eq_true hd; obtain rfl := eq_of_beq hl
    obtain ⟨x, y, t, rfl, E60⟩ := popII_some E; replace E := E60; try dsimp only at E
    obtain rfl := nxt_inj E
    obtain ⟨u1, rfl, hS61⟩ := hS.i; replace hS := hS61
    obtain ⟨u2, rfl, hS62⟩ := hS.i; replace hS := hS62
    exact lv_ixor hx hb hd (K rfl ad tys ws H locs _ _ cells slots hM hL ⟨_, _, rfl, rfl, hS⟩ hH hK hP hD hV hcb hsb)
  | ishl =>
    dsimp only at E
    obtain ⟨hd, hl⟩ := andT hC; have hd := of_decide_eq_true hd; obtain rfl := eq_of_beq hl
    obtain ⟨x, y, t, rfl, E63⟩ := popII_some E; replace E := E63; try dsimp only at E
    obtain rfl := nxt_inj E
    obtain ⟨u1, rfl, hS64⟩ := hS.i; replace hS := hS64
    obtain ⟨u2, rfl, hS65⟩ := hS.i; replace hS := hS65
    exact lv_ishl hx hb hd (K rfl ad tys ws H locs _ _ cells slots hM hL ⟨_, _, rfl, rfl, hS⟩ hH hK hP hD hV hcb hsb)
  | ishr =>
    dsimp only at E
    obtain ⟨hd, hl⟩ := andT hC; have hd := of_decide_eq_true hd; obtain rfl := eq_of_beq hl
    obtain ⟨x, y, t, rfl, E66⟩ := popII_some E; replace E := E66; try dsimp only at E
    obtain rfl := nxt_inj E
    obtain ⟨u1, rfl, hS67⟩ := hS.i; replace hS := hS67
    obtain ⟨u2, rfl, hS68⟩ := hS.i; replace hS := hS68
    exact lv_ishr hx hb hd (K rfl ad tys ws H locs _ _ cells slots hM hL ⟨_, _, rfl, rfl, hS⟩ hH hK hP hD hV hcb hsb)
  | iushr =>
    dsimp only at E
    obtain ⟨hd, hl⟩ := andT hC; have hd := of_decide_eq_true hd; obtain rfl := eq_of_beq hl
    obtain ⟨x, y, t, rfl, E69⟩ := popII_some E; replace E := E69; try dsimp only at E
    obtain rfl := nxt_inj E
    obtain ⟨u1, rfl, hS70⟩ := hS.i; replace hS := hS70
    obtain ⟨u2, rfl, hS71⟩ := hS.i; replace hS := hS71
    exact lv_iushr hx hb hd rfl (K rfl ad tys ws H locs _ _ cells slots hM hL ⟨_, _, rfl, rfl, hS⟩ hH hK hP hD hV hcb hsb)
  | idiv =>
    dsimp only at E
    obtain ⟨hd, hl⟩ := andT hC; have hd := of_decide_eq_true hd; obtain rfl := eq_of_beq hl
    obtain ⟨x, y, t, rfl, E72⟩ := popII_some E; replace E := E72; try dsimp only at E
    split at E
    · cases E
    rename_i hy
    obtain rfl := nxt_inj E
    obtain ⟨u1, rfl, hS73⟩ := hS.i; replace hS := hS73
    obtain ⟨u2, rfl, hS74⟩ := hS.i; replace hS := hS74
    exact lv_idiv hx hb hd hy (K rfl ad tys ws H locs _ _ cells slots hM hL ⟨_, _, rfl, rfl, hS⟩ hH hK hP hD hV hcb hsb)
  | irem =>
    dsimp only at E
    obtain ⟨hd, hl⟩ := andT hC; have hd := of_decide_eq_true hd; obtain rfl := eq_of_beq hl
    obtain ⟨x, y, t, rfl, E75⟩ := popII_some E; replace E := E75; try dsimp only at E
    split at E
    · cases E
    rename_i hy
    obtain rfl := nxt_inj E
    obtain ⟨u1, rfl, hS76⟩ := hS.i; replace hS := hS76
    obtain ⟨u2, rfl, hS77⟩ := hS.i; replace hS := hS77
    exact lv_irem hx hb hd hy (K rfl ad tys ws H locs _ _ cells slots hM hL ⟨_, _, rfl, rfl, hS⟩ hH hK hP hD hV hcb hsb)
  | i2l =>
    dsimp only at E
    obtain ⟨hd, hl⟩ := andT hC; have hd := of_decide_eq_true hd; obtain rfl := eq_of_beq hl
    obtain ⟨x, t, rfl, E78⟩ := popI_some E; replace E := E78; try dsimp only at E
    obtain rfl := nxt_inj E
    obtain ⟨u1, rfl, hS79⟩ := hS.i; replace hS := hS79
    exact lv_i2l hx hb hd rfl (K rfl ad tys ws H locs _ _ cells slots hM hL ⟨_, _, rfl, rfl, hS⟩ hH hK hP hD hV hcb hsb)
  | l2i =>
    dsimp only at E
    obtain ⟨hd, hl⟩ := andT hC; have hd := of_decide_eq_true hd; obtain rfl := eq_of_beq hl
    obtain ⟨x, t, rfl, E80⟩ := popL_some E; replace E := E80; try dsimp only at E
    obtain rfl := nxt_inj E
    obtain ⟨u1, rfl, hS81⟩ := hS.l; replace hS := hS81
    exact lv_l2i hx hb hd rfl (K rfl ad tys ws H locs _ _ cells slots hM hL ⟨_, _, rfl, rfl, hS⟩ hH hK hP hD hV hcb hsb)
  | ladd =>
    dsimp only at E
    obtain ⟨hd, hl⟩ := andT hC; have hd := of_decide_eq_true hd; obtain rfl := eq_of_beq hl
    obtain ⟨x, y, t, rfl, E82⟩ := popLL_some E; replace E := E82; try dsimp only at E
    obtain rfl := nxt_inj E
    obtain ⟨u1, rfl, hS83⟩ := hS.l; replace hS := hS83
    obtain ⟨u2, rfl, hS84⟩ := hS.l; replace hS := hS84
    exact lv_ladd hx hb hd (K rfl ad tys ws H locs _ _ cells slots hM hL ⟨_, _, rfl, rfl, hS⟩ hH hK hP hD hV hcb hsb)
  | lmul =>
    dsimp only at E
    obtain ⟨hd, hl⟩ := andT hC; have hd := of_decide_eq_true hd; obtain rfl := eq_of_beq hl
    obtain ⟨x, y, t, rfl, E85⟩ := popLL_some E; replace E := E85; try dsimp only at E
    obtain rfl := nxt_inj E
    obtain ⟨u1, rfl, hS86⟩ := hS.l; replace hS := hS86
    obtain ⟨u2, rfl, hS87⟩ := hS.l; replace hS := hS87
    exact lv_lmul hx hb hd (K rfl ad tys ws H locs _ _ cells slots hM hL ⟨_, _, rfl, rfl, hS⟩ hH hK hP hD hV hcb hsb)
  | land =>
    dsimp only at E
    obtain ⟨hd, hl⟩ := andT hC; have hd := of_decide_eq_true hd; obtain rfl := eq_of_beq hl
    obtain ⟨x, y, t, rfl, E88⟩ := popLL_some E; replace E := E88; try dsimp only at E
    obtain rfl := nxt_inj E
    obtain ⟨u1, rfl, hS89⟩ := hS.l; replace hS := hS89
    obtain ⟨u2, rfl, hS90⟩ := hS.l; replace hS := hS90
    exact lv_land hx hb hd (K rfl ad tys ws H locs _ _ cells slots hM hL ⟨_, _, rfl, rfl, hS⟩ hH hK hP hD hV hcb hsb)
  | lcmp =>
    dsimp only at E
    obtain ⟨hd, hl⟩ := andT hC; have hd := of_decide_eq_true hd; obtain rfl := eq_of_beq hl
    obtain ⟨x, y, t, rfl, E91⟩ := popLL_some E; replace E := E91; try dsimp only at E
    obtain rfl := nxt_inj E
    obtain ⟨u1, rfl, hS92⟩ := hS.l; replace hS := hS92
    obtain ⟨u2, rfl, hS93⟩ := hS.l; replace hS := hS93
    exact W.lcmp hx hb hd (K rfl ad tys ws H locs _ _ cells slots hM hL ⟨_, _, rfl, rfl, hS⟩ hH hK hP hD hV hcb hsb)
  | dup =>
    dsimp only at E
    obtain ⟨hd, hl⟩ := andT hC; have hd := of_decide_eq_true hd; obtain rfl := eq_of_beq hl
    obtain ⟨v, t, rfl, hv, E94⟩ := popV_some E; replace E := E94; try dsimp only at E
    obtain rfl := nxt_inj E
    obtain ⟨w, u, rfl, hr, hS95⟩ := hS; replace hS := hS95
    exact lv_dup hx hb hd (hr.cat.trans hv) (K rfl ad tys ws H locs _ _ cells slots hM hL ⟨_, _, rfl, hr, _, _, rfl, hr, hS⟩ hH hK hP hD hV hcb hsb)
  | dup2 =>
    dsimp only at E
    obtain ⟨hd, hl⟩ := andT hC; have hd := of_decide_eq_true hd; obtain rfl := eq_of_beq hl
    obtain ⟨v, t, rfl, hv, E96⟩ := popV_some E; replace E := E96; try dsimp only at E
    obtain ⟨v2, t2, rfl, hv2, E97⟩ := popV_some E; replace E := E97; try dsimp only at E
    obtain rfl := nxt_inj E
    obtain ⟨w, u, rfl, hr, w2, u2, rfl, hr2, hS98⟩ := hS; replace hS := hS98
    exact lv_dup2_11 hx hb hd (hr.cat.trans hv) (hr2.cat.trans hv2) (K rfl ad tys ws H locs _ _ cells slots hM hL ⟨_, _, rfl, hr, _, _, rfl, hr2, _, _, rfl, hr, _, _, rfl, hr2, hS⟩ hH hK hP hD hV hcb hsb)
  | ifCond cn off =>
    dsimp only at E
    obtain ⟨hd, hC⟩ := andT hC; have hd := of_decide_eq_true hd; obtain ⟨hl, hC⟩ := andT hC; obtain rfl := eq_of_beq hl; have ht := of_decide_eq_true hC
    obtain ⟨x, t, rfl, E99⟩ := popI_some E; replace E := E99; try dsimp only at E
    obtain ⟨u1, rfl, hS100⟩ := hS.i; replace hS := hS100
    cases cn with
    | eq =>
      refine lv_if_eq hx hb hd ht (fun hc => ?_) (fun hc => ?_)
      · simp only [isN, if_pos hc] at E; obtain rfl := nxt_inj E; exact K rfl ad tys ws H locs _ _ cells slots hM hL hS hH hK hP hD hV hcb hsb
      · simp only [isN, if_neg hc] at E; obtain rfl := nxt_inj E; exact K rfl ad tys ws H locs _ _ cells slots hM hL hS hH hK hP hD hV hcb hsb
    | ne =>
      refine lv_if_ne hx hb hd ht (fun hc => ?_) (fun hc => ?_)
      · simp only [isN, if_neg hc] at E; obtain rfl := nxt_inj E; exact K rfl ad tys ws H locs _ _ cells slots hM hL hS hH hK hP hD hV hcb hsb
      · simp only [isN, if_pos hc] at E; obtain rfl := nxt_inj E; exact K rfl ad tys ws H locs _ _ cells slots hM hL hS hH hK hP hD hV hcb hsb
    | lt =>
      refine lv_if_lt hx hb hd ht (fun hc => ?_) (fun hc => ?_)
      · simp only [isN, if_pos hc] at E; obtain rfl := nxt_inj E; exact K rfl ad tys ws H locs _ _ cells slots hM hL hS hH hK hP hD hV hcb hsb
      · simp only [isN, if_neg hc] at E; obtain rfl := nxt_inj E; exact K rfl ad tys ws H locs _ _ cells slots hM hL hS hH hK hP hD hV hcb hsb
    | ge =>
      refine lv_if_ge hx hb hd ht (fun hc => ?_) (fun hc => ?_)
      · simp only [isN, if_pos hc] at E; obtain rfl := nxt_inj E; exact K rfl ad tys ws H locs _ _ cells slots hM hL hS hH hK hP hD hV hcb hsb
      · simp only [isN, if_neg hc] at E; obtain rfl := nxt_inj E; exact K rfl ad tys ws H locs _ _ cells slots hM hL hS hH hK hP hD hV hcb hsb
    | gt =>
      refine lv_if_gt hx hb hd ht (fun hc => ?_) (fun hc => ?_)
      · simp only [isN, if_pos hc] at E; obtain rfl := nxt_inj E; exact K rfl ad tys ws H locs _ _ cells slots hM hL hS hH hK hP hD hV hcb hsb
      · simp only [isN, if_neg hc] at E; obtain rfl := nxt_inj E; exact K rfl ad tys ws H locs _ _ cells slots hM hL hS hH hK hP hD hV hcb hsb
    | le =>
      refine lv_if_le hx hb hd ht (fun hc => ?_) (fun hc => ?_)
      · simp only [isN, if_pos hc] at E; obtain rfl := nxt_inj E; exact K rfl ad tys ws H locs _ _ cells slots hM hL hS hH hK hP hD hV hcb hsb
      · simp only [isN, if_neg hc] at E; obtain rfl := nxt_inj E; exact K rfl ad tys ws H locs _ _ cells slots hM hL hS hH hK hP hD hV hcb hsb
  | if_icmp cn off =>
    dsimp only at E
    obtain ⟨hd, hC⟩ := andT hC; have hd := of_decide_eq_true hd; obtain ⟨hl, hC⟩ := andT hC; obtain rfl := eq_of_beq hl; have ht := of_decide_eq_true hC
    obtain ⟨x, y, t, rfl, E101⟩ := popII_some E; replace E := E101; try dsimp only at E
    obtain ⟨u1, rfl, hS102⟩ := hS.i; replace hS := hS102
    obtain ⟨u2, rfl, hS103⟩ := hS.i; replace hS := hS103
    cases cn with
    | eq =>
      refine lv_icmp_eq hx hb hd ht (fun hc => ?_) (fun hc => ?_)
      · simp only [isN, if_pos hc] at E; obtain rfl := nxt_inj E; exact K rfl ad tys ws H locs _ _ cells slots hM hL hS hH hK hP hD hV hcb hsb
      · simp only [isN, if_neg hc] at E; obtain rfl := nxt_inj E; exact K rfl ad tys ws H locs _ _ cells slots hM hL hS hH hK hP hD hV hcb hsb
    | ne =>
      refine lv_icmp_ne hx hb hd ht (fun hc => ?_) (fun hc => ?_)
      · simp only [isN, if_neg hc] at E; obtain rfl := nxt_inj E; exact K rfl ad tys ws H locs _ _ cells slots hM hL hS hH hK hP hD hV hcb hsb
      · simp only [isN, if_pos hc] at E; obtain rfl := nxt_inj E; exact K rfl ad tys ws H locs _ _ cells slots hM hL hS hH hK hP hD hV hcb hsb
    | lt =>
      refine lv_icmp_lt hx hb hd ht (fun hc => ?_) (fun hc => ?_)
      · simp only [isN, if_pos hc] at E; obtain rfl := nxt_inj E; exact K rfl ad tys ws H locs _ _ cells slots hM hL hS hH hK hP hD hV hcb hsb
      · simp only [isN, if_neg hc] at E; obtain rfl := nxt_inj E; exact K rfl ad tys ws H locs _ _ cells slots hM hL hS hH hK hP hD hV hcb hsb
    | ge =>
      refine lv_icmp_ge hx hb hd ht (fun hc => ?_) (fun hc => ?_)
      · simp only [isN, if_pos hc] at E; obtain rfl := nxt_inj E; exact K rfl ad tys ws H locs _ _ cells slots hM hL hS hH hK hP hD hV hcb hsb
      · simp only [isN, if_neg hc] at E; obtain rfl := nxt_inj E; exact K rfl ad tys ws H locs _ _ cells slots hM hL hS hH hK hP hD hV hcb hsb
    | gt =>
      refine lv_icmp_gt hx hb hd ht (fun hc => ?_) (fun hc => ?_)
      · simp only [isN, if_pos hc] at E; obtain rfl := nxt_inj E; exact K rfl ad tys ws H locs _ _ cells slots hM hL hS hH hK hP hD hV hcb hsb
      · simp only [isN, if_neg hc] at E; obtain rfl := nxt_inj E; exact K rfl ad tys ws H locs _ _ cells slots hM hL hS hH hK hP hD hV hcb hsb
    | le =>
      refine lv_icmp_le hx hb hd ht (fun hc => ?_) (fun hc => ?_)
      · simp only [isN, if_pos hc] at E; obtain rfl := nxt_inj E; exact K rfl ad tys ws H locs _ _ cells slots hM hL hS hH hK hP hD hV hcb hsb
      · simp only [isN, if_neg hc] at E; obtain rfl := nxt_inj E; exact K rfl ad tys ws H locs _ _ cells slots hM hL hS hH hK hP hD hV hcb hsb
  | goto off =>
    dsimp only at E
    obtain ⟨hd, hC⟩ := andT hC; have hd := of_decide_eq_true hd; obtain ⟨hl, hC⟩ := andT hC; obtain rfl := eq_of_beq hl; have ht := of_decide_eq_true hC
    obtain rfl := nxt_inj E
    exact lv_goto hx hb hd ht (K rfl ad tys ws H locs _ _ cells slots hM hL hS hH hK hP hD hV hcb hsb)
  | tableswitch d lo hi offs =>
    dsimp only at E
    obtain ⟨hd, hC⟩ := andT hC; have hd := of_decide_eq_true hd
    obtain ⟨x, t, rfl, E104⟩ := popI_some E; replace E := E104; try dsimp only at E
    obtain ⟨off, ho, ht, E105⟩ := jmp_some E; replace E := E105; try dsimp only at E
    obtain rfl := nxt_inj E
    obtain ⟨u1, rfl, hS106⟩ := hS.i; replace hS := hS106
    by_cases hc : x.toInt < lo ∨ hi < x.toInt
    · rw [if_pos hc] at ho; cases ho; exact lv_tableOut hx hb hd hc ht (K rfl ad tys ws H locs _ _ cells slots hM hL hS hH hK hP hD hV hcb hsb)
    · rw [if_neg hc] at ho; exact lv_tableIn hx hb hd (fun q => hc (Or.inl q)) (fun q => hc (Or.inr q)) ho ht (K rfl ad tys ws H locs _ _ cells slots hM hL hS hH hK hP hD hV hcb hsb)
  | lookupswitch d ps =>
    dsimp only at E
    obtain ⟨hd, hC⟩ := andT hC; have hd := of_decide_eq_true hd
    obtain ⟨x, t, rfl, E107⟩ := popI_some E; replace E := E107; try dsimp only at E
    obtain ⟨off, ho, ht, E108⟩ := jmp_some E; replace E := E108; try dsimp only at E
    obtain rfl := nxt_inj E
    obtain ⟨u1, rfl, hS109⟩ := hS.i; replace hS := hS109
    exact lv_lookup hx hb hd (of_decide_eq_true hC) (Option.some.inj ho) ht (K rfl ad tys ws H locs _ _ cells slots hM hL hS hH hK hP hD hV hcb hsb)
  | getfield ix =>
    dsimp only at E
    obtain ⟨hd, hC⟩ := andT hC; have hd := of_decide_eq_true hd
    obtain ⟨hl, hC⟩ := andT hC; obtain rfl := eq_of_beq hl
    obtain ⟨i, t, rfl, E110⟩ := popR_some E; replace E := E110; try dsimp only at E
    obtain ⟨a1, u1, rfl, hr, hS111⟩ := hS.r; replace hS := hS111
    split at E
    · rename_i h20
      subst h20
      split at E
      · rename_i hi
        subst hi
        obtain rfl := nxt_inj E
        rcases hr with ⟨-, hr⟩ | ⟨hr, -⟩
        · cases hr
          rcases gf20 hC with ⟨rfl, hw⟩ | ⟨rfl, hw⟩
          · exact vk_getf hx hb (hSW.2.1.1 0 (by decide)).2.1 (by rw [← hH0]; exact hV) hown (hts _ (wat_in hw rfl)) (fun _ h => h) hd (K rfl ad tys ws H locs _ _ cells slots hM hL ⟨_, _, rfl, rfl, hS⟩ hH hK hP hD hV hcb hsb)
          · exact vk_getf hx hb (hSW.2.1.1 0 (by decide)).2.2.1 (by rw [← hH0]; exact hV) hown (hts _ (wat_in hw rfl)) (fun _ h => h) hd (K rfl ad tys ws H locs _ _ cells slots hM hL ⟨_, _, rfl, Or.inl ⟨by decide, rfl⟩, hS⟩ hH hK hP hD hV hcb hsb)
        · exact absurd (by decide) hr
      · cases E
    rename_i h20
    obtain ⟨h9, hb2, hw⟩ := gfN hC h20
    split at E
    · rename_i ci fs hg1
      split at E
      · rename_i hci
        subst hci
        split at E
        · rename_i v hv
          obtain rfl := nxt_inj E
          obtain ⟨a2, x2, e1, had, hws, gs, rfl, hgs⟩ := hH.get hg1 hr
          cases e1
          obtain ⟨w1, hw1, hrw⟩ := hgs.get hv
          exact va_get (ci := ci) (C := RC ci) (T := TT ci) (N := NF ci) hx hb hts (lay_in ci h9) hown hK hP i hws (vw_at ci h9) b2 hb2 (hts _ (wat_in hw rfl)) (fun _ h => h) hw1 hd (K rfl ad tys ws H locs _ _ cells slots hM hL ⟨_, _, rfl, hrw, hS⟩ hH hK hP hD hV hcb hsb)
        · cases E
      · cases E
    · cases E
  | putfield ix =>
    dsimp only at E
    obtain ⟨hd, hC⟩ := andT hC; have hd := of_decide_eq_true hd
    obtain ⟨hC, hfin⟩ := andT hC; obtain ⟨hC, hw⟩ := andT hC; obtain ⟨hC, h9⟩ := andT hC; obtain ⟨hl, hb2⟩ := andT hC; obtain rfl := eq_of_beq hl; have h9 := of_decide_eq_true h9; have hb2 := of_decide_eq_true hb2
    obtain ⟨v, t0, rfl, hvc, E112⟩ := popV_some E; replace E := E112; try dsimp only at E
    obtain ⟨i, t, rfl, E113⟩ := popR_some E; replace E := E113; try dsimp only at E
    obtain ⟨w1, u0, rfl, hrw, hS114⟩ := hS; replace hS := hS114
    obtain ⟨a1, u1, rfl, hr, hS115⟩ := hS.r; replace hS := hS115
    split at E
    · rename_i ci fs hg1
      split at E
      · rename_i hci
        obtain ⟨hci, hbl, hfo⟩ := hci
        subst hci
        obtain rfl := nxt_inj E
        obtain ⟨a2, x2, e1, had, hws, gs, rfl, hgs⟩ := hH.get hg1 hr
        cases e1
        obtain ⟨hn1, hf1⟩ := fld_ok hfo hrw
        have hH2 := hH.set (i := i) (o := .inr (ci, fs.set b2 v)) (x := .inr (ci, gs.set b2 w1)) had ⟨_, rfl, hgs.set hrw b2⟩
        cases hF : (TT ci b2).2.2.2 with
        | false => exact va_put (ci := ci) (C := RC ci) (T := TT ci) (N := NF ci) hx hb hts (lay_in ci h9) (TYF ci) (tyf_ok ci h9) (nmf_ok ci h9) hown hK hP hD hV i hws (vw_at ci h9) b2 hb2 (hts _ (wat_in hw rfl)) (fun _ h => h) hF (tyf_ok ci h9 b2 hb2) hn1 hf1 (by rw [hgs.len]; exact hbl) hd (fun H1 locs1 hP hD hV => K rfl ad tys _ H1 locs1 _ _ cells slots hM hL hS hH2 hK hP hD hV hcb hsb)
        | true =>
          rw [hF] at hfin
          obtain ⟨hf2, hf3⟩ := andT (show (decide ((TT ci b2).1 = RC (CK k)) && decide ((YN k).name = "<init>")) = true from hfin)
          exact va_putF (ci := ci) (C := RC ci) (T := TT ci) (N := NF ci) hx hb hts (lay_in ci h9) (TYF ci) (tyf_ok ci h9) (nmf_ok ci h9) hown hK hP hD hV i hws (vw_at ci h9) b2 hb2 (hts _ (wat_in hw rfl)) (fun _ h => h) hF ((hname (fun q => by rw [q] at hf3; exact absurd hf3 (by decide))).trans (of_decide_eq_true hf3)) (of_decide_eq_true hf2) (tyf_ok ci h9 b2 hb2) hn1 hf1 (by rw [hgs.len]; exact hbl) hd (fun H1 locs1 hP hD hV => K rfl ad tys _ H1 locs1 _ _ cells slots hM hL hS hH2 hK hP hD hV hcb hsb)
      · cases E
    · cases E
  | iaload =>
    dsimp only at E
    obtain ⟨hd, hl⟩ := andT hC; have hd := of_decide_eq_true hd; obtain rfl := eq_of_beq hl
    obtain ⟨j, t0, rfl, E116⟩ := popI_some E; replace E := E116; try dsimp only at E
    obtain ⟨i, t, rfl, E117⟩ := popR_some E; replace E := E117; try dsimp only at E
    obtain ⟨u0, rfl, hS118⟩ := hS.i; replace hS := hS118
    obtain ⟨a1, u1, rfl, hr, hS119⟩ := hS.r; replace hS := hS119
    split at E
    · rename_i hscr
      split at E
      · rename_i hj
        obtain rfl := nxt_inj E
        obtain ⟨hX1, hX2, hX3⟩ := hX hj.1
        rcases hr with ⟨-, hr⟩ | ⟨hr, -⟩
        · rw [hscr] at hr; cases hr; exact va_sld hx hb hX1 hX2 hX3 hV hj.2 hd (K rfl ad tys ws H locs _ _ cells slots hM hL ⟨_, _, rfl, rfl, hS⟩ hH hK hP hD hV hcb hsb)
        · exact absurd (by rw [hscr]; exact Nat.le_refl _) hr
      · cases E
    · split at E
      · rename_i n f hg1
        split at E
        · rename_i hj
          obtain rfl := nxt_inj E
          obtain ⟨a2, x2, e1, had, hws, cA, rfl, hty⟩ := hH.get hg1 hr
          cases e1
          obtain ⟨t0, ht0⟩ := List.getElem?_of_mem hty
          exact va_iald hx hb hK hP i t0 hws ht0 hj hd (K rfl ad tys ws H locs _ _ cells slots hM hL ⟨_, _, rfl, rfl, hS⟩ hH hK hP hD hV hcb hsb)
        · cases E
      · cases E
  | iastore =>
    dsimp only at E
    obtain ⟨hd, hl⟩ := andT hC; have hd := of_decide_eq_true hd; obtain rfl := eq_of_beq hl
    obtain ⟨j, x, t0, rfl, E120⟩ := popII_some E; replace E := E120; try dsimp only at E
    obtain ⟨i, t, rfl, E121⟩ := popR_some E; replace E := E121; try dsimp only at E
    obtain ⟨u0, rfl, hS122⟩ := hS.i; replace hS := hS122
    obtain ⟨u2, rfl, hS123⟩ := hS.i; replace hS := hS123
    obtain ⟨a1, u1, rfl, hr, hS124⟩ := hS.r; replace hS := hS124
    split at E
    · rename_i n f hg1
      split at E
      · rename_i hj
        obtain rfl := nxt_inj E
        obtain ⟨a2, x2, e1, had, hws, cA, rfl, hty⟩ := hH.get hg1 hr
        cases e1
        obtain ⟨t0, ht0⟩ := List.getElem?_of_mem hty
        have hH2 := hH.set (i := i) (o := .inl (n, upd f j.toNatClampNeg x)) (x := .inl (cA, n, .inl (upd f j.toNatClampNeg x))) had ⟨_, rfl, hty⟩
        exact va_iast hx hb hK hP hD hV i t0 hws ht0 hj hd (fun H1 locs1 hP hD hV => K rfl ad tys _ H1 locs1 _ _ cells slots hM hL hS hH2 hK hP hD hV hcb hsb)
      · cases E
    · cases E
  | arraylength =>
    dsimp only at E
    obtain ⟨hd, hl⟩ := andT hC; have hd := of_decide_eq_true hd; obtain rfl := eq_of_beq hl
    obtain ⟨i, t, rfl, E125⟩ := popR_some E; replace E := E125; try dsimp only at E
    obtain ⟨a1, u1, rfl, hr, hS126⟩ := hS.r; replace hS := hS126
    split at E
    · rename_i hi
      subst hi
      obtain rfl := nxt_inj E
      rcases hr with ⟨-, hr⟩ | ⟨hr, -⟩
      · cases hr; exact va_tlen hx hb (hSW.2.1.1 0 (by decide)).2.2.2 (by rw [← hH0]; exact hV) rfl hd (K rfl ad tys ws H locs _ _ cells slots hM hL ⟨_, _, rfl, rfl, hS⟩ hH hK hP hD hV hcb hsb)
      · exact absurd (by decide) hr
    split at E
    · rename_i hscr
      split at E
      · rename_i hj
        obtain rfl := nxt_inj E
        obtain ⟨hX1, hX2, hX3⟩ := hX hj
        rcases hr with ⟨-, hr⟩ | ⟨hr, -⟩
        · rw [hscr] at hr; cases hr; exact va_slen hx hb hX1 hX2 hX3 hV hd (K rfl ad tys ws H locs _ _ cells slots hM hL ⟨_, _, rfl, rfl, hS⟩ hH hK hP hD hV hcb hsb)
        · exact absurd (by rw [hscr]; exact Nat.le_refl _) hr
      · cases E
    · split at E
      · rename_i n f hg1
        obtain rfl := nxt_inj E
        obtain ⟨a2, x2, e1, had, hws, cA, rfl, hty⟩ := hH.get hg1 hr
        cases e1
        obtain ⟨t0, ht0⟩ := List.getElem?_of_mem hty
        exact va_alen hx hb hK hP i t0 hws ht0 rfl hd (K rfl ad tys ws H locs _ _ cells slots hM hL ⟨_, _, rfl, rfl, hS⟩ hH hK hP hD hV hcb hsb)
      · cases E
  | new ix =>
    dsimp only at E
    obtain ⟨hd, hC⟩ := andT hC; have hd := of_decide_eq_true hd
    obtain ⟨hC, hw3⟩ := andT hC; obtain ⟨hC, hw2⟩ := andT hC; obtain ⟨hC, hw1⟩ := andT hC; obtain ⟨hl, h9⟩ := andT hC; obtain rfl := eq_of_beq hl; have h9 := of_decide_eq_true h9
    split at E
    · rename_i hbud
      obtain ⟨hb1, hb2, hb3⟩ := hbud
      obtain rfl := nxt_inj E
      refine va_new (ci := a) (C := RC a) (T := TT a) (N := NF a) (fs := (List.range (NF a)).map (fun j => defaultValue (TYF a j))) hx hb hts (lay_in a h9) (TYF a) (tyf_ok a h9) hown (hts _ (wat_in hw1 rfl)) (hts _ (wat_in hw2 rfl)) (hts _ (wat_in hw3 rfl)) hK hP hD hV hA (vw_at a h9) (fun j hj => ?_) (by omega) (by omega) hd (fun q H1 hP hD hV => ?_)
      · simp [vp_V, List.getD, hj]
      · refine K rfl (ad ++ [q]) tys _ H1 locs _ _ (cells + 1) (slots + NF a) (fun i a h => ad_app q i a (hM i a h)) (hL.mono (ad_app q)) ⟨_, _, rfl, RV.new hH.1.symm hb3, hS.mono (ad_app q)⟩ (hH.push (fun _ h => h) ⟨_, rfl, RS_dflt _ _⟩) hK hP hD hV (by omega) (by omega)
    · cases E
  | newarray at_ =>
    dsimp only at E
    obtain ⟨hd, hC⟩ := andT hC; have hd := of_decide_eq_true hd
    obtain ⟨hl, hC⟩ := andT hC; obtain rfl := eq_of_beq hl; obtain rfl := of_decide_eq_true hC
    obtain ⟨n, t, rfl, E127⟩ := popI_some E; replace E := E127; try dsimp only at E
    obtain ⟨u0, rfl, hS128⟩ := hS.i; replace hS := hS128
    split at E
    · rename_i hbud
      obtain ⟨hb0, hb4, hb1, hb2, hb3⟩ := hbud
      obtain rfl := nxt_inj E
      refine va_newa (atype := .int) (ty := .int) (a0 := (n.toNatClampNeg, .inl (fun _ => 0))) hx hb (hts _ (wat_in (andT ck_obj).2 rfl)) rfl hK hP hD hV hA (fun cA => rfl) hb0 rfl (by show n.toNatClampNeg * 4 ≤ 536870912; omega) (by omega) (by omega) hd (fun q cA H1 hK hP hD hV => ?_)
      exact K rfl (ad ++ [q]) _ _ H1 locs _ _ (cells + 1) (slots + n.toNatClampNeg) (fun i a h => ad_app q i a (hM i a h)) (hL.mono (ad_app q)) ⟨_, _, rfl, RV.new hH.1.symm hb3, hS.mono (ad_app q)⟩ (hH.push (fun _ h => List.mem_append_left _ h) ⟨cA, rfl, List.mem_append_right _ List.mem_cons_self⟩) hK hP hD hV (by omega) (by omega)
    · cases E
  | invokevirtual ix =>
    dsimp only at E
    exact absurd E (call_nn _ _ _ _ _ _ _ _ _ _ _ _)
  | invokestatic ix =>
    dsimp only at E
    obtain ⟨hd, hC⟩ := andT hC; have hd := of_decide_eq_true hd
    split at E
    · cases E
    split at E
    · rename_i h6
      subst h6
      obtain ⟨hl, hC⟩ := andT hC; obtain rfl := eq_of_beq hl
      have hw := stat7 hC
      obtain ⟨x, y, t, rfl, E129⟩ := popII_some E; replace E := E129; try dsimp only at E
      obtain ⟨u1, rfl, hS130⟩ := hS.i; replace hS := hS130
      obtain ⟨u2, rfl, hS131⟩ := hS.i; replace hS := hS131
      split at E
      · rename_i hcs
        obtain rfl := nxt_inj E
        have hcs2 := hS.cs
        exact va_mmin hx hb (by rw [hml]; exact hL.2.1.symm) hown (hts _ (wat_in hw rfl)) (hts _ (wat_in (andT (andT ck_min).1).1 rfl)) (hts _ (wat_in (andT (andT ck_min).1).2 rfl)) (hts _ (wat_in (andT ck_min).2 rfl)) (by omega) (by show csum _ + 13 ≤ _; omega) (by omega) (by omega) hd (K rfl ad tys ws H locs _ _ cells slots hM hL ⟨_, _, rfl, rfl, hS⟩ hH hK hP hD hV hcb hsb)
      · cases E
    split at E
    · rename_i h6
      subst h6
      obtain ⟨hl, hC⟩ := andT hC; obtain rfl := eq_of_beq hl
      have hw := stat6 hC
      obtain ⟨x, y, t, rfl, E132⟩ := popII_some E; replace E := E132; try dsimp only at E
      obtain ⟨u1, rfl, hS133⟩ := hS.i; replace hS := hS133
      obtain ⟨u2, rfl, hS134⟩ := hS.i; replace hS := hS134
      split at E
      · rename_i hcs
        obtain rfl := nxt_inj E
        have hcs2 := hS.cs
        exact va_mmax hx hb (by rw [hml]; exact hL.2.1.symm) hown (hts _ (wat_in hw rfl)) (hts _ (wat_in (andT (andT ck_max).1).1 rfl)) (hts _ (wat_in (andT (andT ck_max).1).2 rfl)) (hts _ (wat_in (andT ck_max).2 rfl)) (by omega) (by show csum _ + 13 ≤ _; omega) (by omega) (by omega) hd (K rfl ad tys ws H locs _ _ cells slots hM hL ⟨_, _, rfl, rfl, hS⟩ hH hK hP hD hV hcb hsb)
      · cases E
    · exact absurd E (call_nn _ _ _ _ _ _ _ _ _ _ _ _)
  | invokespecial ix =>
    dsimp only at E
    obtain ⟨hd, hC⟩ := andT hC; have hd := of_decide_eq_true hd
    split at E
    · rename_i h5
      subst h5
      obtain ⟨hl, hC⟩ := andT hC; obtain rfl := eq_of_beq hl
      have hw := spec5 hC
      obtain ⟨i, t, rfl, E135⟩ := popR_some E; replace E := E135; try dsimp only at E
      obtain ⟨a1, u1, rfl, hr, hS136⟩ := hS.r; replace hS := hS136
      split at E
      · rename_i hcs
        obtain rfl := nxt_inj E
        have hcs2 := hS.cs
        refine W.objInit hx hb hown (hts _ (wat_in hw rfl)) (hts _ (wat_in (andT (andT ck_obj).1).2 rfl)) (hts _ (wat_in (andT (andT ck_obj).1).1 rfl)) rfl (by rw [hml]; exact hL.2.1) rfl hd (by omega) (by show 2 * 0 + csum _ + 12 ≤ _; omega) ?_
        exact K rfl ad tys ws H locs _ _ cells slots hM hL hS hH hK hP hD hV hcb hsb
      · cases E
    · exact absurd E (call_nn _ _ _ _ _ _ _ _ _ _ _ _)
  | _ => cases E
end
section
/-! THE INTERPRETER IS SOUND: calls, frames, contracts -/
def ROP (b : Nat → Nat) (ad : List Nat) (v w : Option Value) : Prop := match v, w with
  | none, none => True
  | some v, some w => RV b ad v w
  | _, _ => False
def QG (bb : Nat → Nat) (ad : List Nat) (o : Ot) (D : va_G) (A : Nat → Prop) : Array Value → State → Outcome → State → Prop := fun _ st oc t =>
  (∃ (w : Option Value) (ad' : List Nat) (tys' : List (ClassId × FieldType)) (ws' : va_W), oc = .returned w ∧ ROP bb ad' o.1 w ∧ (∀ (i a : Nat), ad[i]? = some a → ad'[i]? = some a) ∧ RH bb ad' tys' o.2 ws' ∧ va_P D vwCl ws' t.heap ∧ va_K D vwCl tys' t ∧ va_D A ws') ∧ va_F A st t
def RM (j : Nat) : Room := { frames := RK j, cells := MC j, slots := MS j, locals := 30 * RK j }
def CON (l : Launch) (j : Nat) (vs : List Value) (h : Hp) (o : Ot) : Prop := csum vs ≤ NL j → ∀ (D : va_G) (bb : Nat → Nat) (ad : List Nat) (tys : List (ClassId × FieldType)) (ws : va_W) (sz : Nat) (as : List Value), RS bb ad vs as → RH bb ad tys h ws →
  Met l (YN j) (.code (YN j) (BC j) (NL j) (RT j) :: GW) (RM j) (va_Pc as (fun U => U.heap.size = sz ∧ va_P D vwCl ws U.heap ∧ va_K D vwCl tys U ∧ ((∀ w ∈ NWL, va_Nw w U) ∧ SWp bb (va_A ws sz) U U.heap) ∧ va_D (fun _ => True) ws)) (QG bb ad o D (va_A ws sz)) (MC j) (MS j) (va_A ws sz)
theorem ROP.rs {b : Nat → Nat} {ad : List Nat} {v w : Option Value} (h : ROP b ad v w) {t u : List Value} (ht : RS b ad t u) : RS b ad (v.toList ++ t) (w.toList ++ u) := by
  cases v with
  | none => cases w with
    | none => exact ht
    | some w => exact h.elim
  | some v => cases w with
    | none => exact h.elim
    | some w => exact ⟨w, u, rfl, h, ht⟩
theorem va_callG {p : Program} {l : Launch} {e : Env} {R : Room} {s : State} {m : MethodId} {args : Array Value} {below : List Frame} {meth : Method} {c : Code} {H : Heap} {locs : List Loc} {cells slots : Nat} {Q : State → Prop}
    {pc : Nat} {ls : Array Slot} {rest st0 : List Value} {a : Array Value} {A0 A1 : Nat → Prop} {H0 : Heap} {mc ms : Nat} {free : Addr → Prop} {bb : Nat → Nat} {ad : List Nat} {o : Ot} {D : va_G}
    (hr : va_Run p l e R s m args below meth c H locs cells slots mc ms (F0 m pc ls st0) rest (QG bb ad o D A1 a) free) (hS : va_S A0 H0 H locs) (hA : ∀ q, q < H.size → A1 q → A0 q) (hf : ∀ q, free q → A0 q)
    (kk : ∀ (w : Option Value) (ad' : List Nat) (tys' : List (ClassId × FieldType)) (ws' : va_W) (H1 : Heap) (locs1 : List Loc), ROP bb ad' o.1 w → (∀ (i a : Nat), ad[i]? = some a → ad'[i]? = some a) → RH bb ad' tys' o.2 ws' → va_P D vwCl ws' H1 → va_K D vwCl tys' s → va_D A1 ws' → va_S A0 H0 H1 locs1 →
      W p l e R s m args below meth c H1 locs1 (cells + mc) (slots + ms) Q (F0 m (pc + 3) ls (w.toList ++ rest))) : W p l e R s m args below meth c H locs cells slots Q (F0 m pc ls st0) := by
  intro T hT X
  obtain ⟨v, st₀, t, T', L, h0, X', hL, e1, e2, ⟨⟨w, ad', tys', ws', hv, hp, hm, hR, hP, hK, hD⟩, hz, hk⟩, st⟩ := hr T hT X
  cases hv
  rw [h0] at hz hk
  have hal : s.vm.Alike t.vm := by rw [← e2]; exact X'.warmed.alike
  obtain ⟨t2, a1, b1⟩ := kk v ad' tys' ws' T'.heap (locs ++ L) hp hm hR (by rw [e1]; exact hP) (va_K.moved hal.symm hK) hD
    ⟨Nat.le_trans hS.1 (by rw [e1]; exact hz), fun q h1 h2 => by rw [e1, hk q (Nat.lt_of_lt_of_le h1 hS.1) (fun z => h2 (hA q (Nat.lt_of_lt_of_le h1 hS.1) z))]; exact hS.2.1 q h1 h2, fun q hq => by
      rcases List.mem_append.mp hq with h | h
      · exact hS.2.2 q h
      · exact hf _ (hL q h)⟩ T' rfl X'
  exact ⟨t2, st t2 a1, b1⟩
theorem nwl_form {w : Jvm.Cond} (h : w ∈ NWL) : ∃ a i x hst, w = .methodLinkNest a i x hst := by
  have e : NWL.all (fun w => match w with
    | .methodLinkNest .. => true
    | _ => false) = true := by decide +kernel
  have h2 := List.all_eq_true.mp e w h
  cases w <;> first | exact ⟨_, _, _, _, rfl⟩ | (exfalso; simp at h2; done)
theorem nwl_warm {s U : State} (hW : s.WarmedH U.vm) (h : ∀ w ∈ NWL, va_Nw w s) : ∀ w ∈ NWL, va_Nw w U := by
  intro w hw
  obtain ⟨a, i, x, hst, rfl⟩ := nwl_form hw
  exact va_Nw.warmM hW (h _ hw)
theorem nwl_same {u U : State} (hvm : u.vm = U.vm) (h : ∀ w ∈ NWL, va_Nw w u) : ∀ w ∈ NWL, va_Nw w U := by
  intro w hw
  obtain ⟨a, i, x, hst, rfl⟩ := nwl_form hw
  exact va_Nw.same rfl hvm (h _ hw)
theorem SWp.same {b : Nat → Nat} {A : Nat → Prop} {u U : State} {H : Heap} (hvm : U.vm = u.vm) (h : SWp b A u H) : SWp b A U H :=
  ⟨h.1.same hvm, vk_S.moved (by rw [hvm]; exact Vm.Alike.refl _) h.2.1, va_Z.moved (by rw [hvm]; exact Vm.Alike.refl _) h.2.2⟩
theorem SWp.go {b : Nat → Nat} {A B : Nat → Prop} {s U : State} {H : Heap} {locs : List Loc} (hW : s.WarmedH U.vm) (hV : va_S A s.heap H locs) (hB : ∀ q, B q → A q) (h : SWp b A s s.heap) : SWp b B U H :=
  ⟨h.1.warm hW, vk_S.moved hW.alike ((h.2.1.kept hV.2.1).narrow hB), va_Z.moved hW.alike ((h.2.2.kept hV.2.1).narrow hB)⟩
theorem con_pre {s : State} {H : Heap} {D : va_G} {ws : va_W} {tys : List (ClassId × FieldType)} {A : Nat → Prop} {as : List Value} {b : Nat → Nat} {locs : List Loc} (hK : va_K D vwCl tys s) (hP : va_P D vwCl ws H) (hD : va_D A ws) (hN : ∀ w ∈ NWL, va_Nw w s) (hSW : SWp b A s s.heap) (hV : va_S A s.heap H locs) (hB : ∀ q, va_A ws H.size q → A q) :
    PreS s H (va_Pc as (fun U => U.heap.size = H.size ∧ va_P D vwCl ws U.heap ∧ va_K D vwCl tys U ∧ ((∀ w ∈ NWL, va_Nw w U) ∧ SWp b (va_A ws H.size) U U.heap) ∧ va_D (fun _ => True) ws)) as := by
  refine ⟨fun a U g mk q => ?_, fun U hU hW => ⟨rfl, by rw [hU], by rw [hU]; exact hP, va_K.moved hW.alike hK, ⟨nwl_warm hW hN, by rw [hU]; exact SWp.go hW hV hB hSW⟩, hD.weaken (fun _ _ _ _ => trivial)⟩⟩
  obtain ⟨q0, q1, qP, qK, ⟨qN, qS⟩, qD⟩ := q
  exact ⟨q0, q1, qP, va_K.moved (u := U) (U := U.calling g mk a) (Vm.Alike.refl U.vm) qK, ⟨nwl_same (u := U) (U := U.calling g mk a) rfl qN, SWp.same (u := U) (U := U.calling g mk a) rfl qS⟩, qD⟩
theorem call_some {recv : Bool} {k pc : Nat} {ls : Ls} {lq : Lq} {st : List Value} {h : Hp} {cb sb b n : Nat} {x : Cf × Cf} (E : call recv k pc ls lq st h cb sb b n = some (.inr x)) :
    ∃ m, m = (if recv = true then n + 1 else n) ∧ m ≤ st.length ∧ csum (st.drop m) ≤ 8 ∧ csum (st.take m) ≤ NL b ∧ MC b ≤ cb ∧ MS b ≤ sb ∧ (recv = true → rcv h (CK b) (st.drop n) = true) ∧ x = (start h b (st.take m).reverse, (k, pc + 3, ls, lq, st.drop m, h, cb - MC b, sb - MS b)) := by
  unfold call at E
  dsimp only at E
  refine ⟨_, rfl, ?_⟩
  generalize (if recv = true then n + 1 else n) = m at E ⊢
  by_cases hc : m ≤ st.length ∧ csum (st.drop m) ≤ 8 ∧ csum (st.take m) ≤ NL b ∧ MC b ≤ cb ∧ MS b ≤ sb ∧ (recv = true → rcv h (CK b) (st.drop n) = true)
  · rw [if_pos hc] at E
    cases E
    obtain ⟨h1, h2, h3, h4, h5, h6⟩ := hc
    exact ⟨h1, h2, h3, h4, h5, h6, rfl⟩
  · rw [if_neg hc] at E
    cases E
theorem gw_goodin {ws : List Jvm.Cond} (h : ∀ w ∈ ws, w ∈ GW) : GoodIn GW ws := fun w hw => ⟨h w hw, good_of_word (gw_good w (h w hw))⟩
/-- what is known of a callee by the tables -/
theorem callee_ok {k b : Nat} {z : Int} (h : iok k b z = true) : b < 148 ∧ RK b < RK k ∧ wat (PCo b) (.code (YN b) (BC b) (NL b) (RT b)) = true ∧ plainName (YN b).cls = true ∧ (YN b).cls = RC (CK b) ∧ (YN b).cls ≠ "java/lang/invoke/MethodHandle" ∧ (YN b).cls ≠ "java/lang/invoke/VarHandle" ∧ NL b ≤ 11 ∧ wat (PIi b) (.initialized (YN b).cls) = true ∧ (parseMethodDescriptor (YN b).desc).map (fun d => d.parameters.length) = some z.toNat := by
  obtain ⟨h, h4⟩ := andT h
  obtain ⟨h, h3⟩ := andT h
  obtain ⟨h1, h2⟩ := andT h
  have h2 := of_decide_eq_true h2
  have h4 := of_decide_eq_true h4
  have hb : b < 148 := by
    have e : LAWM = 148 := rfl
    rw [e] at h4
    omega
  have hm := chkM_ok hb
  obtain ⟨hm, -⟩ := andT hm
  obtain ⟨hm, m7⟩ := andT hm
  obtain ⟨hm, m6⟩ := andT hm
  obtain ⟨hm, m5⟩ := andT hm
  obtain ⟨hm, m4⟩ := andT hm
  obtain ⟨hm, m3⟩ := andT hm
  obtain ⟨m1, m2⟩ := andT hm
  exact ⟨hb, of_decide_eq_true h1, m1, m2, of_decide_eq_true m3, of_decide_eq_true m4, of_decide_eq_true m5, of_decide_eq_true m6, m7, of_decide_eq_true h3⟩
theorem take_recv {st : List Value} {n : Nat} {v : Value} {r : List Value} (h : st.drop n = v :: r) : st.take (n + 1) = st.take n ++ [v] ∧ st.drop (n + 1) = r ∧ n < st.length := by
  refine ⟨?_, ?_, ?_⟩
  · rw [List.take_add, h]; rfl
  · rw [← List.drop_drop, h]; rfl
  · rcases Nat.lt_or_ge n st.length with q | q
    · exact q
    · rw [List.drop_eq_nil_of_le q] at h; cases h
theorem rcv_some {h : Hp} {ci : Nat} {st : List Value} (e : rcv h ci st = true) : ∃ p r, st = .ref p :: r ∧ ((p = STRR ∧ ci = 11) ∨ ∃ fs, hg h p = some (.inr (ci, fs))) := by
  unfold rcv at e
  split at e
  · split at e
    · rename_i hp
      exact ⟨_, _, rfl, Or.inl ⟨hp, eq_of_beq e⟩⟩
    · split at e
      · rename_i c fs hc
        have : c = ci := by simpa using e
        subst this
        exact ⟨_, _, rfl, Or.inr ⟨_, hc⟩⟩
      · cases e
  · cases e
theorem csum_rev (l : List Value) : csum l.reverse = csum l := by simp [csum, List.map_reverse, List.sum_reverse]
set_option maxHeartbeats 4000000 in
/-- a call: the callee's contract, then what the caller goes on with -/
theorem call_gen {p : Program} {l : Launch} {e : Env} {R : Room} {s : State} {m : MethodId} {args : Array Value} {below : List Frame} {meth : Method} {c : Code} {D : va_G} {k : Nat} {sc : Nat × (Nat → Int32)} {b : Nat → Nat} {ad0 : List Nat} {H0 : Heap} {A : Nat → Prop} {Q : State → Prop} (C : CTX p R s m args meth c k sc b H0 A)
    {pc : Nat} {ls : Ls} {lq : Lq} {st : List Value} {h : Hp} {cb sb : Nat} {a r : Cf} {recv : Bool} {bb n : Nat} {z : Int} (hz : z.toNat = n) (hi : iok k bb z = true) (hc : call recv k pc ls lq st h cb sb bb n = some (.inr (a, r))) (o : Ot) (hcon : ∀ (h' : Hp) (j : Nat) (vs : List Value), a = start h' j vs → j < 148 → CON l j vs h' o) (K : OKC p l e R s m args below meth c D k b ad0 H0 A Q (resume r o))
    {ad : List Nat} {tys : List (ClassId × FieldType)} {ws : va_W} {H : Heap} {locs : List Loc} {lsA : Array Slot} {stA : List Value} {cells slots : Nat} (hM : ∀ (i a : Nat), ad0[i]? = some a → ad[i]? = some a) (hL : RLo b ad (NL k) ls lq lsA) (hS : RS b ad st stA) (hH : RH b ad tys h ws) (hK : va_K D vwCl tys s) (hP : va_P D vwCl ws H) (hD : va_D A ws) (hV : va_S A H0 H locs) (hcb : cells + cb ≤ MC k) (hsb : slots + sb ≤ MS k)
    (hrun : ∀ (as rest : List Value) (a0 : Nat), stA = (if recv = true then as.tail.reverse ++ .ref a0 :: rest else as.reverse ++ rest) → (recv = true → as = .ref a0 :: as.tail) →
        (recv = true → ∃ cellB : Cell, H[a0]? = some cellB ∧ cellB.vm.isStatics = false ∧ s.vm.findClass (YN bb).cls = some cellB.cls) →
        (if recv = true then as.tail.length = n else as.length = n) → csum rest ≤ 8 → cells + MC bb ≤ R.cells ∧ slots + MS bb ≤ R.slots →
        (Jvm.Cond.code (YN bb) (BC bb) (NL bb) (RT bb)).before args s = true → (Jvm.Cond.initialized (YN bb).cls).before args s = true → ((YN bb).cls ≠ "java/lang/invoke/MethodHandle" ∧ (YN bb).cls ≠ "java/lang/invoke/VarHandle") → (∀ sig, parseMethodDescriptor (YN bb).desc = some sig → n = sig.parameters.length) →
        ((RM bb).frames + 1 ≤ R.frames ∧ 8 + (NL bb + 11) + (RM bb).locals ≤ R.locals) → (∀ w ∈ (Jvm.Cond.code (YN bb) (BC bb) (NL bb) (RT bb) :: GW), ∀ (a' : Array Value) (U : State), s.WarmedH U.vm → w.before a' U = true) →
        PreS s H (va_Pc as (fun U => U.heap.size = H.size ∧ va_P D vwCl ws U.heap ∧ va_K D vwCl tys U ∧ ((∀ w ∈ NWL, va_Nw w U) ∧ SWp b (va_A ws H.size) U U.heap) ∧ va_D (fun _ => True) ws)) as →
        Met l (YN bb) (.code (YN bb) (BC bb) (NL bb) (RT bb) :: GW) (RM bb) (va_Pc as (fun U => U.heap.size = H.size ∧ va_P D vwCl ws U.heap ∧ va_K D vwCl tys U ∧ ((∀ w ∈ NWL, va_Nw w U) ∧ SWp b (va_A ws H.size) U U.heap) ∧ va_D (fun _ => True) ws)) (QG b ad o D (va_A ws H.size)) (MC bb) (MS bb) (va_A ws H.size) →
        va_Run p l e R s m args below meth c H locs cells slots (MC bb) (MS bb) (F0 m pc lsA stA) rest (QG b ad o D (va_A ws H.size) as.toArray) (va_A ws H.size)) :
    W p l e R s m args below meth c H locs cells slots Q (F0 m pc lsA stA) := by
  obtain ⟨hx, hb, hml, hown, hts, ⟨hnw, hSW, hH0⟩, hname, hA, hX, hR1, hR2, hR3, hR4⟩ := C
  obtain ⟨hb1, hrk, hcode, hplain, hcls, hmh, hvh, hnl, hini, hpar⟩ := callee_ok hi
  obtain ⟨mm, hmm, h1, h2, h3, h4, h5, h6, hxx⟩ := call_some hc
  obtain ⟨rfl, rfl⟩ := Prod.mk.inj hxx
  have hFc : ∀ q, va_A ws H.size q → A q := by
    rintro q (⟨k, e, h⟩ | h)
    · exact hD.2 k _ h
    · exact hA q (Nat.le_trans hV.1 h)
  have hcodeG : Jvm.Cond.code (YN bb) (BC bb) (NL bb) (RT bb) ∈ GW := wat_in hcode rfl
  have hws : ∀ w ∈ (Jvm.Cond.code (YN bb) (BC bb) (NL bb) (RT bb) :: GW), w ∈ GW := fun w hw => by
    rcases List.mem_cons.mp hw with rfl | hw
    · exact hcodeG
    · exact hw
  have hCON := hcon h bb (st.take mm).reverse rfl hb1 (by rw [csum_rev]; exact h3) D b ad tys ws H.size
  have hpar2 : ∀ sig, parseMethodDescriptor (YN bb).desc = some sig → n = sig.parameters.length := fun sig hsig => by
    rw [hsig] at hpar
    have e : sig.parameters.length = z.toNat := Option.some.inj hpar
    omega
  have fin : ∀ (as : List Value) (a0 : Nat), RS b ad (st.take mm).reverse as → stA = (if recv = true then as.tail.reverse ++ .ref a0 :: stA.drop mm else as.reverse ++ stA.drop mm) → (recv = true → as = .ref a0 :: as.tail) →
        (recv = true → ∃ cellB : Cell, H[a0]? = some cellB ∧ cellB.vm.isStatics = false ∧ s.vm.findClass (YN bb).cls = some cellB.cls) →
        (if recv = true then as.tail.length = n else as.length = n) → W p l e R s m args below meth c H locs cells slots Q (F0 m pc lsA stA) := by
    intro as a0 g1 g2 g3 g4 g5
    have hrest := hS.drop mm
    refine va_callG (hrun as (stA.drop mm) a0 g2 g3 g4 g5 (by rw [hrest.cs]; exact h2) ⟨by omega, by omega⟩ (hts _ hcodeG) (hts _ (wat_in hini rfl)) ⟨hmh, hvh⟩ hpar2 ⟨by show RK bb + 1 ≤ _; omega, by show 8 + (NL bb + 11) + 30 * RK bb ≤ _; omega⟩ (pay_in hts (gw_goodin hws)) (con_pre hK hP hD hnw hSW (by rw [← hH0]; exact hV) hFc) (hCON as g1 hH)) hV (fun q _ h => hFc q h) hFc (fun w ad' tys' ws' H1 locs1 hp hm hR hP hK hD' hV' => ?_)
    exact K rfl ad' tys' ws' H1 locs1 _ _ (cells + MC bb) (slots + MS bb) (fun i a h => hm i a (hM i a h)) (hL.mono hm) (hp.rs (hrest.mono hm)) hR hK hP (hD'.weaken (fun k q _ h => hFc q.1 h)) hV' (by omega) (by omega)
  cases recv with
  | false =>
    have hmn : mm = n := by simpa using hmm
    subst hmn
    refine fin (stA.take mm).reverse 0 (hS.take mm).rev (by simp) (fun q => by cases q) (fun q => by cases q) ?_
    have := hS.len
    simp
    omega
  | true =>
    have hmn : mm = n + 1 := by simpa using hmm
    subst hmn
    obtain ⟨q, r0, e1, e2⟩ := rcv_some (h6 rfl)
    have hd := hS.drop n
    rw [e1] at hd
    obtain ⟨a0, u, e3, hr, -⟩ := hd.r
    obtain ⟨t1, t2, t3⟩ := take_recv e3
    have hrc : ∃ cell : Cell, H[a0]? = some cell ∧ cell.vm.isStatics = false ∧ s.vm.findClass (RC (CK bb)) = some cell.cls := by
      rcases e2 with ⟨rfl, h11⟩ | ⟨fs, e2⟩
      · rcases hr with ⟨-, hr⟩ | ⟨hr, -⟩
        · cases hr
          rw [h11]
          exact vk_recv hSW.2.1 (i := 0) (by decide) (by rw [← hH0]; exact hV)
        · exact absurd (by decide) hr
      · obtain ⟨a2, x2, e4, had, hw2, gs, rfl, hgs⟩ := hH.get e2 hr
        cases e4
        obtain ⟨rr, hrr, -⟩ := hP q _ hw2
        have h9 : CK bb < 9 := (List.getElem?_eq_some_iff.mp hrr).1
        exact va_recv hK hP (vw_at _ h9) hw2
    refine fin (stA.take (n + 1)).reverse a0 (hS.take (n + 1)).rev ?_ ?_ (fun _ => by rw [hcls]; exact hrc) ?_
    · rw [if_pos rfl, t1, List.reverse_append]
      show stA = (stA.take n).reverse.reverse ++ _
      rw [List.reverse_reverse, t2, ← e3, List.take_append_drop]
    · intro _
      rw [t1, List.reverse_append]
      rfl
    · rw [if_pos rfl, t1, List.reverse_append]
      show (stA.take n).reverse.length = n
      rw [List.length_reverse, List.length_take]
      omega
theorem jmp_nr {pc : Nat} {o : Option Int} {f : Nat → Ef} {x : Cf × Cf} (hf : ∀ t, ¬ f t = some (.inr x)) : ¬ jmp pc o f = some (.inr x) := by
  intro h
  obtain ⟨off, -, -, e⟩ := jmp_some h
  exact hf _ e
theorem isN_nr {f g : Cf} {c : ClassFile.Cond} {a b : Int32} {x : Cf × Cf} : ¬ isN (nxt f) (nxt g) c a b = some (.inr x) := by
  intro h
  cases c <;> (simp only [isN] at h; split at h <;> cases h)
theorem popI_nr {st : List Value} {f : Int32 → List Value → Ef} {x : Cf × Cf} (hf : ∀ a t, ¬ f a t = some (.inr x)) : ¬ popI st f = some (.inr x) := fun h => by obtain ⟨a, t, -, e⟩ := popI_some h; exact hf _ _ e
theorem popII_nr {st : List Value} {f : Int32 → Int32 → List Value → Ef} {x : Cf × Cf} (hf : ∀ a b t, ¬ f a b t = some (.inr x)) : ¬ popII st f = some (.inr x) := fun h => by obtain ⟨a, b, t, -, e⟩ := popII_some h; exact hf _ _ _ e
theorem popL_nr {st : List Value} {f : Int64 → List Value → Ef} {x : Cf × Cf} (hf : ∀ a t, ¬ f a t = some (.inr x)) : ¬ popL st f = some (.inr x) := fun h => by obtain ⟨a, t, -, e⟩ := popL_some h; exact hf _ _ e
theorem popLL_nr {st : List Value} {f : Int64 → Int64 → List Value → Ef} {x : Cf × Cf} (hf : ∀ a b t, ¬ f a b t = some (.inr x)) : ¬ popLL st f = some (.inr x) := fun h => by obtain ⟨a, b, t, -, e⟩ := popLL_some h; exact hf _ _ _ e
theorem popR_nr {st : List Value} {f : Nat → List Value → Ef} {x : Cf × Cf} (hf : ∀ a t, ¬ f a t = some (.inr x)) : ¬ popR st f = some (.inr x) := fun h => by obtain ⟨a, t, -, e⟩ := popR_some h; exact hf _ _ e
theorem popV_nr {st : List Value} {f : Value → List Value → Ef} {x : Cf × Cf} (hf : ∀ a t, ¬ f a t = some (.inr x)) : ¬ popV st f = some (.inr x) := fun h => by obtain ⟨a, t, -, -, e⟩ := popV_some h; exact hf _ _ e
theorem ldI_nr {ls : Ls} {n : Nat} {f : Int32 → Ef} {x : Cf × Cf} (hf : ∀ a, ¬ f a = some (.inr x)) : ¬ ldI ls n f = some (.inr x) := fun h => by obtain ⟨a, -, e⟩ := ldI_some h; exact hf _ e
theorem ldR_nr {ls : Ls} {n : Nat} {f : Nat → Ef} {x : Cf × Cf} (hf : ∀ a, ¬ f a = some (.inr x)) : ¬ ldR ls n f = some (.inr x) := fun h => by obtain ⟨a, -, e⟩ := ldR_some h; exact hf _ e
theorem ldL_nr {lq : Lq} {n : Nat} {f : Int64 → Ef} {x : Cf × Cf} (hf : ∀ a, ¬ f a = some (.inr x)) : ¬ ldL lq n f = some (.inr x) := fun h => by obtain ⟨a, -, e⟩ := ldL_some h; exact hf _ e
theorem stor_nr {ls : Ls} {lq : Lq} {n : Nat} {v : Value} {f : Ls → Lq → Ef} {x : Cf × Cf} (hf : ∀ a b, ¬ f a b = some (.inr x)) : ¬ stor ls lq n v f = some (.inr x) := fun h => by obtain ⟨-, e⟩ := stor_some h; exact hf _ _ e
theorem storL_nr {ls : Ls} {lq : Lq} {n : Nat} {v : Int64} {f : Ls → Lq → Ef} {x : Cf × Cf} (hf : ∀ a b, ¬ f a b = some (.inr x)) : ¬ storL ls lq n v f = some (.inr x) := fun h => by obtain ⟨-, e⟩ := storL_some h; exact hf _ _ e
theorem nxt_nr {c : Cf} {x : Cf × Cf} : ¬ nxt c = some (.inr x) := fun h => by cases h
set_option maxRecDepth 100000 in
set_option maxHeartbeats 40000000 in
theorem call_ok {p : Program} {l : Launch} {e : Env} {R : Room} {s : State} {m : MethodId} {args : Array Value} {below : List Frame} {meth : Method} {c : Code} {D : va_G} {k : Nat} {sc : Nat × (Nat → Int32)} {b : Nat → Nat} {ad0 : List Nat} {H0 : Heap} {A : Nat → Prop} {Q : State → Prop} (C : CTX p R s m args meth c k sc b H0 A)
    {pc : Nat} {ls : Ls} {lq : Lq} {st : List Value} {h : Hp} {cb sb : Nat} {a r : Cf} (E : effN sc (k, pc, ls, lq, st, h, cb, sb) = some (.inr (a, r))) (o : Ot) (hcon : ∀ (h' : Hp) (j : Nat) (vs : List Value), a = start h' j vs → j < 148 → CON l j vs h' o) (K : OKC p l e R s m args below meth c D k b ad0 H0 A Q (resume r o)) : OKC p l e R s m args below meth c D k b ad0 H0 A Q (k, pc, ls, lq, st, h, cb, sb) := by
  intro _ ad tys ws H locs lsA stA cells slots hM hL hS hH hK hP hD hV hcb hsb
  have CC := C
  obtain ⟨hx, hb, hml, hown, hts, ⟨hnw, hSW, hH0⟩, hname, hA, hX, hR1, hR2, hR3, hR4⟩ := C
  unfold effN at E
  dsimp only at E
  split at E
  · cases E
  rename_i pc0 i len a2 b2 c0 z hf
  obtain ⟨rfl, hC⟩ := fetch_chk hf
  cases i with
  | invokevirtual ix =>
    dsimp only at E
    obtain ⟨hd, hC⟩ := andT hC; have hd := of_decide_eq_true hd
    obtain ⟨hC, hw3⟩ := andT hC; obtain ⟨hC, hw2⟩ := andT hC; obtain ⟨hC, hw1⟩ := andT hC; obtain ⟨hC, hi⟩ := andT hC; obtain ⟨hl, h0⟩ := andT hC; obtain rfl := eq_of_beq hl
    refine call_gen CC rfl hi E o hcon K hM hL hS hH hK hP hD hV hcb hsb (fun as rest a0 g1 g2 g3 g4 g5 g6 g7 g8 g9 g10 g11 g12 g13 g14 => ?_)
    have g2 := g2 rfl
    rw [if_pos rfl] at g1 g4
    rw [g2] at g13 g14 ⊢
    exact va_runV (As := as.tail) (rest := rest) ⟨hx, hb, hml, hown, hts⟩ g14 ⟨⟨rfl, rfl, g11.1, g11.2, g12, List.mem_cons_self, g7, g8, g9, g10, hts _ (wat_in hw1 rfl)⟩, hts _ (wat_in hw2 rfl), hts _ (wat_in hw3 rfl)⟩ ⟨g13.1, g3 rfl, g13.2⟩ rfl g4 hL.2.1 g1 (lv_room g5) hd g6
  | invokestatic ix =>
    dsimp only at E
    split at E
    · cases E
    rename_i h99
    split at E
    · exact absurd E (popII_nr (fun _ _ _ q => by (try dsimp only at q); split at q <;> cases q))
    rename_i h7
    split at E
    · exact absurd E (popII_nr (fun _ _ _ q => by (try dsimp only at q); split at q <;> cases q))
    rename_i h6
    obtain ⟨hd, hC⟩ := andT hC; have hd := of_decide_eq_true hd
    obtain ⟨hl, hC⟩ := andT hC; obtain rfl := eq_of_beq hl
    rcases Bool.or_eq_true_iff.mp hC with hC | hC
    · rcases Bool.or_eq_true_iff.mp hC with hC | hC
      · rcases Bool.or_eq_true_iff.mp hC with hC | hC
        · exact absurd (eq_of_beq hC) h99
        · exact absurd (eq_of_beq (andT hC).1) h6
      · exact absurd (eq_of_beq (andT hC).1) h7
    obtain ⟨hC, hk⟩ := andT hC; obtain ⟨hi, hw2⟩ := andT hC
    refine call_gen CC rfl hi E o hcon K hM hL hS hH hK hP hD hV hcb hsb (fun as rest a0 g1 g2 g3 g4 g5 g6 g7 g8 g9 g10 g11 g12 g13 g14 => ?_)
    rw [if_neg (by decide)] at g1 g4
    rcases Bool.or_eq_true_iff.mp hk with hk | hk
    · obtain ⟨-, hw1⟩ := andT hk
      exact va_runS (As := as) (rest := rest) ⟨hx, hb, hml, hown, hts⟩ g14 ⟨⟨rfl, rfl, g11.1, g11.2, g12, List.mem_cons_self, g7, g8, g9, g10, hts _ (wat_in hw1 rfl)⟩, hts _ (wat_in hw2 rfl)⟩ g13 rfl g4 hL.2.1 g1 (lv_room g5) hd g6
    · obtain ⟨-, hw1⟩ := andT hk
      have hn1 := hnw _ (List.mem_of_getElem? (of_decide_eq_true hw1))
      exact va_runSN (host := "MirrorClerks") (As := as) (rest := rest) ⟨hx, hb, hml, hown, hts⟩ g14 ⟨⟨⟨rfl, rfl, g11.1, g11.2, g12, List.mem_cons_self⟩, g7, g8, g9, g10, va_Nw.use rfl hn1⟩, hts _ (wat_in hw2 rfl), trivial⟩ g13 rfl g4 hL.2.1 g1 (lv_room g5) hd g6
  | invokespecial ix =>
    dsimp only at E
    split at E
    · exact absurd E (popR_nr (fun _ _ q => by (try dsimp only at q); split at q <;> cases q))
    rename_i h6
    obtain ⟨hd, hC⟩ := andT hC; have hd := of_decide_eq_true hd
    obtain ⟨hl, hC⟩ := andT hC; obtain rfl := eq_of_beq hl
    rcases Bool.or_eq_true_iff.mp hC with hC | hC
    · exact absurd (eq_of_beq (andT hC).1) h6
    obtain ⟨hC, hk⟩ := andT hC; obtain ⟨hC, hw2⟩ := andT hC; obtain ⟨hC, hrt⟩ := andT hC; obtain ⟨hi, hnm⟩ := andT hC
    have hrt := of_decide_eq_true hrt
    have hnm := of_decide_eq_true hnm
    refine call_gen CC rfl hi E o hcon K hM hL hS hH hK hP hD hV hcb hsb (fun as rest a0 g1 g2 g3 g4 g5 g6 g7 g8 g9 g10 g11 g12 g13 g14 => ?_)
    have g2 := g2 rfl
    rw [if_pos rfl] at g1 g4
    rw [g2] at g13 g14 ⊢
    rw [hrt] at g7 g12 g14
    rcases Bool.or_eq_true_iff.mp hk with hk | hk
    · obtain ⟨-, hw1⟩ := andT hk
      exact va_runI (As := as.tail) (rest := rest) ⟨hx, hb, hml, hown, hts⟩ g14 ⟨⟨rfl, rfl, g11.1, g11.2, g12, List.mem_cons_self, g7, g8, g9, g10, hts _ (wat_in hw1 rfl)⟩, hnm, hts _ (wat_in hw2 rfl)⟩ g13 rfl g4 hL.2.1 g1 (lv_room g5) hd g6
    · obtain ⟨-, hw1⟩ := andT hk
      have hn1 := hnw _ (List.mem_of_getElem? (of_decide_eq_true hw1))
      exact va_runIN (host := "MirrorClerks") (As := as.tail) (rest := rest) ⟨hx, hb, hml, hown, hts⟩ g14 ⟨⟨⟨rfl, rfl, g11.1, g11.2, g12, List.mem_cons_self⟩, g7, g8, g9, g10, va_Nw.use rfl hn1⟩, hnm, hts _ (wat_in hw2 rfl)⟩ g13 rfl g4 hL.2.1 g1 (lv_room g5) hd g6
  | getfield ix =>
    exact absurd E (popR_nr (fun _ _ q => by (try dsimp only at q); split at q <;> (try split at q) <;> (try split at q) <;> (try split at q) <;> cases q))
  | putfield ix =>
    exact absurd E (popV_nr (fun _ _ => popR_nr (fun _ _ q => by (try dsimp only at q); split at q <;> (try split at q) <;> (try split at q) <;> cases q)))
  | iaload =>
    exact absurd E (popI_nr (fun _ _ => popR_nr (fun _ _ q => by (try dsimp only at q); split at q <;> (try split at q) <;> (try split at q) <;> cases q)))
  | iastore =>
    exact absurd E (popII_nr (fun _ _ _ => popR_nr (fun _ _ q => by (try dsimp only at q); split at q <;> (try split at q) <;> (try split at q) <;> cases q)))
  | arraylength =>
    exact absurd E (popR_nr (fun _ _ q => by (try dsimp only at q); split at q <;> (try split at q) <;> (try split at q) <;> cases q))
  | baload =>
    exact absurd E (popI_nr (fun _ _ => popR_nr (fun _ _ q => by (try dsimp only at q); split at q <;> cases q)))
  | ldc ix => exact absurd E (fun q => by (try dsimp only at q); split at q <;> cases q)
  | new ix => exact absurd E (fun q => by (try dsimp only at q); split at q <;> cases q)
  | newarray t => exact absurd E (popI_nr (fun _ _ q => by (try dsimp only at q); split at q <;> cases q))
  | idiv => exact absurd E (popII_nr (fun _ _ _ q => by (try dsimp only at q); split at q <;> cases q))
  | irem => exact absurd E (popII_nr (fun _ _ _ q => by (try dsimp only at q); split at q <;> cases q))
  | ifCond cn off => exact absurd E (popI_nr (fun _ _ => isN_nr))
  | if_icmp cn off => exact absurd E (popII_nr (fun _ _ _ => isN_nr))
  | tableswitch d lo hi offs => exact absurd E (popI_nr (fun _ _ => jmp_nr (fun _ => nxt_nr)))
  | lookupswitch d ps => exact absurd E (popI_nr (fun _ _ => jmp_nr (fun _ => nxt_nr)))
  | _ => exfalso; first
    | exact nxt_nr E
    | exact popII_nr (fun _ _ _ => nxt_nr) E
    | exact popI_nr (fun _ _ => nxt_nr) E
    | exact popL_nr (fun _ _ => nxt_nr) E
    | exact popLL_nr (fun _ _ _ => nxt_nr) E
    | exact popV_nr (fun _ _ => nxt_nr) E
    | exact popV_nr (fun _ _ => popV_nr (fun _ _ => nxt_nr)) E
    | exact ldI_nr (fun _ => nxt_nr) E
    | exact ldR_nr (fun _ => nxt_nr) E
    | exact ldL_nr (fun _ => nxt_nr) E
    | exact popI_nr (fun _ _ => stor_nr (fun _ _ => nxt_nr)) E
    | exact popR_nr (fun _ _ => stor_nr (fun _ _ => nxt_nr)) E
    | exact popL_nr (fun _ _ => storL_nr (fun _ _ => nxt_nr)) E
    | exact ldI_nr (fun _ => stor_nr (fun _ _ => nxt_nr)) E
    | cases E
end
section
/-! THE INTERPRETER IS SOUND: a whole method -/
theorem eff_next {sc : Nat × (Nat → Int32)} {c : Cf} {x} (h : eff sc c = some (.inr x)) : effN sc c = some x := by
  unfold eff at h
  split at h
  · cases h
  · cases e : effN sc c with
    | none => rw [e] at h; cases h
    | some y => rw [e] at h; cases h; rfl
theorem eff_ret {sc : Nat × (Nat → Int32)} {c : Cf} {o : Ot} (h : eff sc c = some (.inl o)) : retE c = some o := by
  unfold eff at h
  split at h
  · rename_i o' e
    cases h
    exact e
  · cases e : effN sc c with
    | none => rw [e] at h; cases h
    | some y => rw [e] at h; cases h
theorem frame_ok {p : Program} {l : Launch} {e : Env} {R : Room} {s : State} {m : MethodId} {args : Array Value} {below : List Frame} {meth : Method} {c : Code} {D : va_G} {k : Nat} {sc : Nat × (Nat → Int32)} {b : Nat → Nat} {ad0 : List Nat} {H0 : Heap} {A : Nat → Prop} {Q : State → Prop} (C : CTX p R s m args meth c k sc b H0 A) (hRK : 0 < RK k) {o : Ot} (N : Nat)
    (hcon : ∀ n, n < N → ∀ (h : Hp) (j : Nat) (vs : List Value) (o' : Ot), run sc n (start h j vs) = some o' → j < 148 → CON l j vs h o')
    (hret : ∀ cf, retE cf = some o → OKC p l e R s m args below meth c D k b ad0 H0 A Q cf) : ∀ n, n ≤ N → ∀ cf, run sc n cf = some o → OKC p l e R s m args below meth c D k b ad0 H0 A Q cf
  | 0, _, cf, h => by cases h
  | n + 1, hn, cf, h => by
    unfold run at h
    cases he : eff sc cf with
    | none => rw [he] at h; cases h
    | some x =>
      rw [he] at h
      obtain ⟨k', pc, ls, lq, st, hp, cb, sb⟩ := cf
      by_cases hk : k' = k
      · subst hk
        match x, he, h with
        | .inl o', he, h =>
          cases h
          exact hret _ (eff_ret he)
        | .inr (.inl c'), he, h => exact step_ok C hRK (eff_next he) (frame_ok C hRK N hcon hret n (by omega) c' h)
        | .inr (.inr (a, r)), he, h =>
          dsimp only at h
          cases ha : run sc n a with
          | none => rw [ha] at h; cases h
          | some o' =>
            rw [ha] at h
            exact call_ok C (eff_next he) o' (fun h' j vs e1 hj => hcon n (by omega) h' j vs o' (by rw [← e1]; exact ha) hj) (frame_ok C hRK N hcon hret n (by omega) (resume r o') h)
      · intro q
        exact absurd q hk
theorem retOk_ty {t : Option FieldType} {x : Int32} (h : retOk t x = true) : (t = some .int) ∨ (∃ ty, t = some ty ∧ narrow ty (.int x) = .int x) := by
  unfold retOk at h
  split at h
  · exact Or.inl rfl
  · refine Or.inr ⟨_, rfl, ?_⟩
    have h : x = 0 ∨ x = 1 := by simpa using h
    rcases h with rfl | rfl <;> rfl
  · refine Or.inr ⟨_, rfl, ?_⟩
    have h : x = 0 := by simpa using h
    rcases h with rfl; rfl
  · cases h
theorem lg_len (vs : List Value) : (lg_sl vs).length = csum vs := by
  induction vs with
  | nil => rfl
  | cons v t ih =>
    have e : (lg_sl (v :: t)) = (if v.category = 2 then [Slot.val v, Slot.second] else [Slot.val v]) ++ lg_sl t := by simp [lg_sl]
    rw [e, List.length_append, ih]
    simp only [csum, List.map_cons, List.sum_cons]
    rcases lv_cat v with h | h <;> simp [h]
theorem mk_rel {b : Nat → Nat} {ad : List Nat} {lsA : Array Slot} : ∀ (vs as : List Value) (i : Nat), RS b ad vs as → (∀ q ∈ lv_args i as, lsA[q.1]? = some (.val q.2)) →
    (∀ (t : Nat) (v : Value), (mkLs vs)[t]? = some (some v) → v.category = 1 ∧ ∃ w : Value, RV b ad v w ∧ lsA[i + t]? = some (.val w)) ∧ ∀ q ∈ mkLq i vs, lsA[q.1]? = some (.val (.long q.2))
  | [], _, i, _, _ => ⟨fun t v h => by simp [mkLs] at h, fun q h => by simp [mkLq] at h⟩
  | v :: vs, _, i, ⟨w, u, h1, h2, h3⟩, hA => by
    subst h1
    have hw : lsA[i]? = some (.val w) := hA (i, w) List.mem_cons_self
    have hc : w.category = v.category := h2.cat
    have hrest : ∀ q ∈ lv_args (if v.category = 2 then i + 2 else i + 1) u, lsA[q.1]? = some (.val q.2) := fun q hq => hA q (List.mem_cons_of_mem _ (by rw [hc]; exact hq))
    obtain ⟨r1, r2⟩ := mk_rel vs u _ h3 hrest
    have e1 : mkLs (v :: vs) = (if v.category = 2 then [none, none] else [some v]) ++ mkLs vs := by simp [mkLs]
    refine ⟨fun t x hx => ?_, fun q hq => ?_⟩
    · rw [e1] at hx
      rcases lv_cat v with h | h
      · rw [if_neg (by omega)] at hx r1
        cases t with
        | zero =>
          simp at hx
          subst hx
          exact ⟨h, w, h2, hw⟩
        | succ t =>
          simp at hx
          obtain ⟨a1, a2, a3, a4⟩ := r1 t x hx
          exact ⟨a1, a2, a3, by rw [show i + (t + 1) = i + 1 + t by omega]; exact a4⟩
      · rw [if_pos h] at hx r1
        match t, hx with
        | 0, hx => simp at hx
        | 1, hx => simp at hx
        | t + 2, hx =>
          simp at hx
          obtain ⟨a1, a2, a3, a4⟩ := r1 t x hx
          exact ⟨a1, a2, a3, by rw [show i + (t + 2) = i + 2 + t by omega]; exact a4⟩
    · unfold mkLq at hq
      rcases List.mem_append.mp hq with hq | hq
      · cases v with
        | long x =>
          simp at hq
          subst hq
          rw [show w = .long x from h2] at hw
          exact hw
        | _ => simp at hq
      · exact r2 q hq
theorem mkLs_len (vs : List Value) : (mkLs vs).length = csum vs := by
  induction vs with
  | nil => rfl
  | cons v t ih =>
    have e1 : mkLs (v :: t) = (if v.category = 2 then [none, none] else [some v]) ++ mkLs t := by simp [mkLs]
    rw [e1, List.length_append, ih]
    simp only [csum, List.map_cons, List.sum_cons]
    rcases lv_cat v with h | h <;> simp [h]
theorem start_rel {b : Nat → Nat} {ad : List Nat} {nL : Nat} {vs as : List Value} (hS : RS b ad vs as) (hc : csum vs ≤ nL) : RLo b ad nL (padL (mkLs vs) nL) (mkLq 0 vs) ((lg_sl as ++ List.replicate (nL - (lg_sl as).length) Slot.unset).toArray) := by
  have he := lv_entry as (n := nL) (by rw [lg_len, hS.cs]; exact hc)
  obtain ⟨r1, r2⟩ := mk_rel vs as 0 hS he.2.2
  refine ⟨by unfold padL; rw [List.length_append, List.length_replicate, mkLs_len]; omega, he.1, he.2.1, fun i v hv => ?_, r2⟩
  unfold padL at hv
  rcases Nat.lt_or_ge i (mkLs vs).length with h | h
  · rw [List.getElem?_append_left h] at hv
    obtain ⟨a1, a2, a3, a4⟩ := r1 i v hv
    exact ⟨a1, a2, a3, by rw [← Nat.zero_add i]; exact a4⟩
  · rw [List.getElem?_append_right h, List.getElem?_replicate] at hv
    split at hv <;> cases hv
theorem ret_ok {p : Program} {l : Launch} {e : Env} {R : Room} {s : State} {m : MethodId} {args : Array Value} {below : List Frame} {meth : Method} {c : Code} {D : va_G} {k : Nat} {sc : Nat × (Nat → Int32)} {b : Nat → Nat} {ad0 : List Nat} {A : Nat → Prop} (C : CTX p R s m args meth c k sc b s.heap A) (hr : meth.sig.returnType = RT k) (hlocks : meth.locks = false) {o : Ot} {free : Addr → Prop} (hfree : ∀ q, A q → free q)
    (cf : Cf) (E : retE cf = some o) : OKC p l e R s m args below meth c D k b ad0 s.heap A (MQ below (QG b ad0 o D A) args s (MC k) (MS k) free) cf := by
  obtain ⟨k', pc, ls, lq, st, h, cb, sb⟩ := cf
  intro hkk ad tys ws H locs lsA stA cells slots hM hL hS hH hK hP hD hV hcb hsb
  subst hkk
  obtain ⟨hx, hb, -⟩ := C
  unfold retE at E
  dsimp only at E
  refine W.widen (k := MC k') (n := MS k') (by omega) (by omega) ?_
  have hf : ∀ q ∈ locs, free q.base := fun q hq => hfree _ (hV.2.2 q hq)
  split at E
  · cases E
  rename_i pc0 i len a2 b2 c0 z hfe
  obtain ⟨rfl, hC⟩ := fetch_chk hfe
  split at E
  · obtain ⟨hd, hl⟩ := andT hC; have hd := of_decide_eq_true hd; obtain rfl := eq_of_beq hl
    split at E
    · rename_i x
      split at E
      · rename_i hro
        cases E
        obtain ⟨u, rfl, hu⟩ := hS.i
        rw [show u = [] from hu]
        rcases retOk_ty hro with ht | ⟨_, ht, hn⟩
        · exact W.iret hx hb (hr.trans ht) (fun t ht hW => ⟨⟨some (.int x), ad, tys, ws, rfl, rfl, hM, hH, by rw [ht]; exact hP, va_K.moved hW.alike hK, hD⟩, hV.F ht⟩) hf hd hlocks
        · exact W.zret hx hb (hr.trans ht) hn (fun t ht hW => ⟨⟨some (.int x), ad, tys, ws, rfl, rfl, hM, hH, by rw [ht]; exact hP, va_K.moved hW.alike hK, hD⟩, hV.F ht⟩) hf hd hlocks
      · cases E
    · cases E
  · obtain ⟨hd, hl⟩ := andT hC; have hd := of_decide_eq_true hd; obtain rfl := eq_of_beq hl
    split at E
    · rename_i x
      split at E
      · rename_i hro
        cases E
        obtain ⟨u, rfl, hu⟩ := hS.l
        rw [show u = [] from hu]
        exact W.lret hx hb (hr.trans hro) (fun t ht hW => ⟨⟨some (.long x), ad, tys, ws, rfl, rfl, hM, hH, by rw [ht]; exact hP, va_K.moved hW.alike hK, hD⟩, hV.F ht⟩) hf hd hlocks
      · cases E
    · cases E
  · obtain ⟨hd, hl⟩ := andT hC; have hd := of_decide_eq_true hd; obtain rfl := eq_of_beq hl
    split at E
    · split at E
      · rename_i hro
        cases E
        rw [show stA = [] from hS]
        exact W.vret hx hb (hr.trans hro) (fun t ht hW => ⟨⟨none, ad, tys, ws, rfl, trivial, hM, hH, by rw [ht]; exact hP, va_K.moved hW.alike hK, hD⟩, hV.F ht⟩) hf hd hlocks
      · cases E
    · cases E
  · cases E
theorem con_ok (l : Launch) (sc : Nat × (Nat → Int32)) : ∀ (N n : Nat), n < N → ∀ (h : Hp) (j : Nat) (vs : List Value) (o : Ot), run sc n (start h j vs) = some o → j < 148 → CON l j vs h o
  | 0, n, hn, _, _, _, _, _, _ => absurd hn (by omega)
  | N + 1, n, hn, h, j, vs, o, hrun, hj => by
    have ih := con_ok l sc N
    intro hcs D bb ad tys ws sz as hRS hRH
    have hm := chkM_ok hj
    obtain ⟨hm, hrk⟩ := andT hm
    obtain ⟨hm, m7⟩ := andT hm
    obtain ⟨hm, m6⟩ := andT hm
    obtain ⟨hm, m5⟩ := andT hm
    obtain ⟨hm, m4⟩ := andT hm
    obtain ⟨hm, m3⟩ := andT hm
    obtain ⟨m1, m2⟩ := andT hm
    have m3 := of_decide_eq_true m3
    refine Met.ofW (cc := BC j) (maxL := NL j) (ret := RT j) m2 rfl ?_
    intro p e s m args below meth c s₁ B hml hv
    obtain ⟨rfl, hsz, hP, hK, ⟨hN, hSW⟩, hD0⟩ := hv
    have hts := atoms_spec (ws := .code (YN j) (BC j) (NL j) (RT j) :: GW) B.pre
    have hown : s.vm.findClass (YN j).cls = some m.cls := findClass_of_methodNamed B.named
    rw [m3] at hown
    subst hsz
    have hD := hD0.self (sz := s.heap.size)
    rw [lg_entry_eq]
    have hl := start_rel (b := bb) (nL := NL j) hRS hcs
    have hA : ∀ q : Nat, s.heap.size ≤ q → va_A ws s.heap.size q := fun q h => Or.inr h
    have hLAW : ¬ j = LAWM := by
      have e : LAWM = 148 := rfl
      omega
    have C : CTX p (RM j) s m as.toArray meth c j sc bb s.heap (va_A ws s.heap.size) :=
      ⟨B.exec, B.bytes, hml, hown, fun w h => hts w (List.mem_cons_of_mem _ h), ⟨hN, hSW, rfl⟩, fun _ => (name_of_methodNamed B.named B.method).1, hA, fun q => absurd q hLAW, Nat.le_refl _, Nat.le_refl _, Nat.le_refl _, Nat.le_refl _⟩
    exact frame_ok (Q := MQ below (QG bb ad o D (va_A ws s.heap.size)) as.toArray s (MC j) (MS j) (va_A ws s.heap.size)) (ad0 := ad) (D := D) C (of_decide_eq_true hrk) n (fun n' hn' => ih n' (by omega)) (ret_ok C B.returns B.notSynchronized (fun _ h => h)) n (Nat.le_refl _) _ hrun rfl ad tys ws s.heap [] _ [] 0 0 (fun _ _ h => h) hl rfl hRH hK hP hD va_S.rf (by omega) (by omega)
end
section
/-! THE CLAIM OUT OF ONE WALK OF THE LAW'S BODY. Your part is whole_start (and what it stands on); all else here is the same for every law, but numbers. -/
def R_law : String := "MirrorClerksLaw"
def lw_P (b : Addr) (xs : List Int32) (args : Array Value) (s : State) : Prop := args = #[.ref b] ∧ s.IntsAt b xs ∧ xs.length ≤ 2048 ∧ (Jvm.Cond.and given_1 narrow_1).before args s = true
def lw_Q (_ : Array Value) (s : State) (o : Outcome) (t : State) : Prop := o = .returned (some (.int 1)) ∧ Framed s o t [] 40 317
def lw_Z (below : List Frame) (a : Array Value) (s : State) : State → Prop := fun t => ∃ o, t.status = .running ∧ Ended t below o ∧ lw_Q a s o t
/-- the law's own end, with 1 on the stack, nothing written that was there before, its room as the claim has it -/
theorem lw_ret {p : Program} {l : Launch} {e : Env} {s : State} {m : MethodId} {below : List Frame} {meth : Method} {c : Code} {b : Nat} (hx : p.tables.exec = Jvm.exec) (hb : c.code = code) (hr : meth.sig.returnType = ret) (hlocks : meth.locks = false) {pc : Nat} {H : Heap} {ls : Array Slot} (hdg : decode code pc = .ok (.ireturn, 1)) : W p l e room_1 s m #[Value.ref b] below meth c H [] 40 317 (lw_Z below #[Value.ref b] s) (F0 m pc ls [.int 1]) := by
  intro T hT X
  obtain ⟨fs, hret, hrun, hended, hW, hframe⟩ := X.leave (v := some (.int 1)) (hlocks := hlocks) (fun h => by rw [hr] at h; cases h)
  have hmeth' : T.vm.method? m = some meth := X.method'
  refine ⟨T.setFrames fs, ?_, .returned (some (.int 1)), hrun, hended, rfl, ⟨_, rfl⟩, hW, hframe⟩
  jvm_step X.here [X.here.top, hx, hb, hdg, hmeth', hr, ret, narrow_b1]
  (try refine ⟨rfl, ?_⟩); (try refine ⟨rfl, ?_⟩)
  first | (intro acts; rw [hret _ acts rfl rfl rfl]) | rw [hret _ _ rfl rfl rfl]
  exact Steps.refl _
/-- what holds at the law's entry: the machine, the code, the tables' words (any of lw_tbl by 'hts w (by decide +kernel)'), the script of L ints xs at the cell b, what the Statement gives of the start (any of its parts by flat_of_before) -/
def lw_At (p : Program) (s : State) (m : MethodId) (meth : Method) (c : Code) (b L : Nat) (xs : Nat → Int32) : Prop :=
  p.tables.exec = Jvm.exec ∧ c.code = code ∧ meth.sig.returnType = ret ∧ c.maxLocals = 4 ∧ s.vm.findClass R_law = some m.cls ∧ (∀ w ∈ lw_tbl, w.before #[Value.ref b] s = true) ∧ va_X b L xs s s.heap ∧ b < s.heap.size ∧ meth.locks = false ∧ (Jvm.Cond.and given_1 narrow_1).before #[Value.ref b] s = true

/-- what is left: the interpreter's law ends with 1 -/
def PURE : Prop := ∀ (L : Nat) (xs : Nat → Int32), L ≤ 2048 → ∃ n h', run (L, xs) n (start [] LAWM [.ref SCR]) = some (some (.int 1), h')
theorem law_ret {p : Program} {l : Launch} {e : Env} {s : State} {m : MethodId} {below : List Frame} {meth : Method} {c : Code} {D : va_G} {sc : Nat × (Nat → Int32)} {b : Nat} {bx : Nat → Nat} {ad0 : List Nat} (C : CTX p room_1 s m #[Value.ref b] meth c LAWM sc bx s.heap (fun q => s.heap.size ≤ q)) (hr : meth.sig.returnType = ret) (hlocks : meth.locks = false) {h' : Hp}
    (cf : Cf) (E : retE cf = some (some (.int 1), h')) : OKC p l e room_1 s m #[Value.ref b] below meth c D LAWM bx ad0 s.heap (fun q => s.heap.size ≤ q) (lw_Z below #[Value.ref b] s) cf := by
  obtain ⟨k', pc, ls, lq, st, h, cb, sb⟩ := cf
  intro hkk ad tys ws H locs lsA stA cells slots hM hL hS hH hK hP hD hV hcb hsb
  obtain ⟨hx, hb, -⟩ := C
  unfold retE at E
  dsimp only at E
  have e40 : MC LAWM = 40 := rfl
  have e317 : MS LAWM = 317 := rfl
  refine W.widen (k := 40) (n := 317) (by omega) (by omega) ?_
  refine va_forget (fun q hq => hV.2.2 q hq) ?_
  split at E
  · cases E
  rename_i pc0 i len a2 b2 c0 z hfe
  obtain ⟨rfl, hC⟩ := fetch_chk hfe
  split at E
  · obtain ⟨hd, hl⟩ := andT hC; have hd := of_decide_eq_true hd; obtain rfl := eq_of_beq hl
    split at E
    · rename_i x
      split at E
      · rename_i hro
        cases E
        obtain ⟨u, rfl, hu⟩ := hS.i
        rw [show u = [] from hu]
        rw [hkk] at hd
        exact lw_ret hx hb hr hlocks hd
      · cases E
    · cases E
  · split at E
    · split at E <;> cases E
    · cases E
  · split at E
    · split at E <;> cases E
    · cases E
  · cases E
theorem lay_tbl {a : Nat} (h : a < 9) : ∀ w ∈ u_ws (RC a) (TT a) (NF a), w ∈ lw_tbl := fun w hw => gw_in w (lay_in a h w hw)
set_option maxRecDepth 100000 in
theorem ck_sref : Jvm.Cond.stringRef "MirrorClerks$Page" 39 ".#mbfwv" ∈ lw_tbl := List.mem_of_getElem? (i := 272) (by decide +kernel)
set_option maxRecDepth 100000 in
theorem ck_istr : Jvm.Cond.initialized "java/lang/String" ∈ lw_tbl := List.mem_of_getElem? (i := 39) (by decide +kernel)
set_option maxRecDepth 100000 in
theorem ck_static : Jvm.Cond.laysStatic "java/lang/String" "COMPACT_STRINGS" "Z" ∈ lw_tbl := List.mem_of_getElem? (i := 286) (by decide +kernel)
set_option maxRecDepth 100000 in
theorem ck_inst : ((List.range 9).all (fun a => lw_tbl.any (fun w => decide (w = .instantiable (RC a) (NF a))))) = true := by decide +kernel
theorem inst_tbl {a : Nat} (h : a < 9) : Jvm.Cond.instantiable (RC a) (NF a) ∈ lw_tbl := by
  have h1 := List.all_eq_true.mp ck_inst a (List.mem_range.mpr h)
  obtain ⟨w, hw, e⟩ := List.any_eq_true.mp h1
  rw [← of_decide_eq_true e]
  exact hw
theorem law_walk {p : Program} {e : Env} {s : State} {m : MethodId} {below : List Frame} {meth : Method} {c : Code} (l : Launch) (hpure : PURE) {b L : Nat} {xs : Nat → Int32} (hL : L ≤ 2048) (C0 : lw_At p s m meth c b L xs) : W p l e room_1 s m #[Value.ref b] below meth c s.heap [] 0 0 (lw_Z below #[Value.ref b] s) (entryFrame m ([Value.ref b] : List Value).toArray 4) := by
  obtain ⟨hx, hb, hr, hml, hown, hts, hX, hbl, hlocks, hgv⟩ := id C0
  have kn : ∀ a, ∃ q : ClassId × (Nat → Nat), a < 9 → u_Kn s (RC a) (TT a) (NF a) q.1 q.2 := by
    intro a
    by_cases h : a < 9
    · obtain ⟨c0, iS0, h0⟩ := u_known (C := RC a) (T := TT a) (N := NF a) (n := NF a) hts (lay_tbl h) (hts _ (inst_tbl h))
      exact ⟨(c0, iS0), fun _ => h0⟩
    · exact ⟨(0, fun _ => 0), fun q => absurd q h⟩
  obtain ⟨dd, hdd⟩ := Classical.axiomOfChoice kn
  have hK : va_K (fun a => (dd a).1, fun a => (dd a).2) vwCl [] s := by
    refine ⟨fun k q hq => ?_, fun k q h => by simp at h⟩
    have h9 : k < 9 := (List.getElem?_eq_some_iff.mp hq).1
    rw [vw_at k h9] at hq
    cases hq
    exact hdd k h9
  have hP : va_P (fun a => (dd a).1, fun a => (dd a).2) vwCl [] s.heap := fun k q h => by simp at h
  have hD : va_D (fun q : Nat => s.heap.size ≤ q) [] := ⟨fun i j p q h => by simp at h, fun k q h => by simp at h⟩
  have hN : ∀ w ∈ NWL, va_Nw w s := fun w hw => by
    obtain ⟨a, i, x, hst, rfl⟩ := nwl_form hw
    exact va_Nw.of rfl (hts _ (nest_in hw))
  have hf := flat_of_before _ hgv
  have hA0 : ∀ a : Nat, a < s.heap.size → ¬ (fun q : Nat => s.heap.size ≤ q) a := fun a h => Nat.not_le.mpr h
  obtain ⟨adK, adV, hvS, hvE⟩ := vk_Sof (N := 1) (tm := fun _ => .string "MirrorClerks$Page" 39) (len := [7]) (byt := [BYTES]) (A := fun q : Nat => s.heap.size ≤ q)
    (fun i hi => by rw [show i = 0 by omega]; decide)
    (fun i hi => hf _ (by decide +kernel))
    (fun i hi => hf _ (by decide +kernel))
    (fun i hi => hf _ (by decide +kernel))
    (fun i hi => by rw [show i = 0 by omega]; exact hf _ (by decide +kernel))
    (fun i hi j hj => by
      rw [show i = 0 by omega] at hj ⊢
      have hj : j < 7 := hj
      match j, hj with
      | 0, _ => exact hf _ (by decide +kernel)
      | 1, _ => exact hf _ (by decide +kernel)
      | 2, _ => exact hf _ (by decide +kernel)
      | 3, _ => exact hf _ (by decide +kernel)
      | 4, _ => exact hf _ (by decide +kernel)
      | 5, _ => exact hf _ (by decide +kernel)
      | 6, _ => exact hf _ (by decide +kernel)
      | n + 7, h => exact absurd h (by omega))
    (fun i j hi hj hij => absurd (show i = j by omega) hij) hA0
  have hvZ : va_Z "java/lang/String" "COMPACT_STRINGS" "Z" (.int 1) (fun q : Nat => s.heap.size ≤ q) s s.heap :=
    va_Zof (hts _ ck_static) (hts _ ck_istr) (va_eqi (hf _ (by decide +kernel))) hA0
  have hvR : vk_R "MirrorClerks$Page" 39 ".#mbfwv" (adK 0) s := vk_R.of (hts _ ck_sref) (hvE 0 (by decide))
  let bx : Nat → Nat := fun i => if i = SCR then b else if i = STRR then adK 0 else adV 0
  have hvS2 : vk_S 1 [7] [BYTES] (fun _ => bx STRR) (fun _ => bx BYTR) (fun q : Nat => s.heap.size ≤ q) s s.heap :=
    ⟨fun i hi => by rw [show i = 0 by omega]; exact hvS.1 0 (by decide), fun i j hi hj _ => by omega⟩
  have C : CTX p room_1 s m #[Value.ref b] meth c LAWM (L, xs) bx s.heap (fun q => s.heap.size ≤ q) :=
    ⟨hx, hb, hml, hown, fun w h => hts w (gw_in w h), ⟨hN, ⟨hvR, hvS2, hvZ⟩, rfl⟩, fun q => absurd rfl q, fun _ h => h, fun _ => ⟨hX, hbl, Nat.not_le.mpr hbl⟩, by decide, by decide, by decide, by decide⟩
  obtain ⟨n, h', hrun⟩ := hpure L xs hL
  have hl := start_rel (b := bx) (ad := []) (nL := 4) (vs := [.ref SCR]) (as := [.ref b]) ⟨_, _, rfl, Or.inl ⟨Nat.le_refl _, rfl⟩, rfl⟩ (by decide)
  rw [lg_entry_eq]
  exact frame_ok (D := (fun a => (dd a).1, fun a => (dd a).2)) (ad0 := []) C (by decide) n (fun n' hn' => con_ok l (L, xs) n n' hn') (law_ret C hr hlocks) n (Nat.le_refl _) _ hrun rfl [] [] [] s.heap [] _ [] 0 0 (fun _ _ h => h) hl rfl ⟨rfl, rfl, fun k o h => by simp at h⟩ hK hP hD va_S.rf (by decide) (by decide)
end
section
theorem pure_ok : PURE := sorry
theorem whole_start {p : Program} {e : Env} {s : State} {m : MethodId} {below : List Frame} {meth : Method} {c : Code} (l : Launch) (hflags : l.flags = flags0) {b L : Nat} {xs : Nat → Int32} (hL : L ≤ 2048) (C0 : lw_At p s m meth c b L xs) : W p l e room_1 s m #[Value.ref b] below meth c s.heap [] 0 0 (lw_Z below #[Value.ref b] s) (entryFrame m ([Value.ref b] : List Value).toArray 4) := law_walk l pure_ok hL C0
-- ===== YOUR PART ENDS =====
set_option maxHeartbeats 4000000 in
theorem lw_walk (l : Launch) (hflags : l.flags = flags0) (b : Addr) (xs : List Int32) : MetFree l x (headSpec (Jvm.Cond.code x code maxLocals ret :: tables_1) room_1) (lw_P b xs) (fun _ _ _ _ _ => True) lw_Q := by
  refine MetFree.of_bodyS (code := code) (maxLocals := maxLocals) (ret := ret) (by decide) ?_ ?_
  · intro args s m h hn
    obtain ⟨meth, c, h1, h2, h3, h4, h5, h6, -, -⟩ := Cond.code_spec hn (atoms_spec (ws := Jvm.Cond.code x code maxLocals ret :: tables_1) h _ List.mem_cons_self)
    exact ⟨meth, c, h1, h2, h3, h4, h5, h6⟩
  · intro p e s m args below meth c s₁ B hml0 hP _
    obtain ⟨rfl, hx, hbd, hgv⟩ := hP
    obtain ⟨scr, harrAt, hlist, hof, hsmall⟩ := hx
    obtain ⟨hcb, hkn, -, -⟩ := State.arrayAt?_spec harrAt
    have hown : s.vm.findClass R_law = some m.cls := findClass_of_methodNamed B.named
    have hts0 : ∀ c ∈ (Jvm.Cond.code x code maxLocals ret :: tables_1), c.before #[Value.ref b] s = true := atoms_spec (ws := Jvm.Cond.code x code maxLocals ret :: tables_1) B.pre
    have hts : ∀ w ∈ lw_tbl, w.before #[Value.ref b] s = true := k2_hts_sels lw_privs (fun w hw => hts0 w (List.mem_cons_of_mem _ hw)) lw_privs_ok
    have hml : c.maxLocals = 4 := B.maxLocals_eq (hts0 _ List.mem_cons_self)
    have X₀ : Stand p l e room_1 s m #[Value.ref b] below meth c s₁ [] 0 0 := Stand.of_body B
    have hh0 : s₁.heap = s.heap := by rw [B.state]; rfl
    have hsz : scr.slots.size = xs.length := by rw [← Array.length_toList, hlist, List.length_map]
    have hval : ∀ j : Nat, j < xs.length → scr.slots[j]? = some (.int (xs.getD j 0)) := fun j hj => by
      rw [← Array.getElem?_toList, hlist]
      simp [hj]
    have hbl : b < s.heap.size := (Array.getElem?_eq_some_iff.mp hcb).1
    have hX : va_X b xs.length (fun j => xs.getD j 0) s s.heap := ⟨scr, hcb, hof, hkn, hsz, hval⟩
    have K : W p l e room_1 s m #[Value.ref b] below meth c s₁.heap [] 0 0 (lw_Z below #[Value.ref b] s) (entryFrame m ([Value.ref b] : List Value).toArray 4) := by
      rw [hh0]
      exact whole_start l hflags hbd ⟨B.exec, B.bytes, B.returns, hml, hown, hts, hX, hbl, B.notSynchronized, hgv⟩
    obtain ⟨t, a1, o, b1, b2, b3⟩ := K s₁ rfl X₀
    exact ⟨t, o, a1, b1, b2, b3⟩
theorem lw_pre_spec {args : Array Value} {s : State} (h : (Jvm.Cond.and given_1 narrow_1).before args s = true) (hr : rest_1_c.before args s = true) : ∃ (b : Addr) (xs : List Int32), lw_P b xs args s := by
  have hs := flat_of_before _ h
  have hq := flat_of_before _ hr
  have hc : (Cond.count 1).before args s = true := hs _ (by decide +kernel)
  have harr : (Cond.arrayOf (.arg 0) .int).before args s = true := hs _ (by decide +kernel)
  have hle : (Cond.le (.length (.arg 0)) (.int 2048)).before args s = true := hs _ (by decide +kernel)
  have hlen : (Cond.isInt (.length (.arg 0))).before args s = true := hq _ (by decide +kernel)
  have hall : (Cond.all (.arg 0) (.isInt (.elem (.arg 0) (.index 0)))).before args s = true := hq _ (by decide +kernel)
  obtain ⟨b, xs, hb, hx⟩ := State.ints_of_pre rfl harr hlen hall
  have hsm : xs.length < 2 ^ 31 := hx.choose_spec.2.2.2
  have hev : (Term.length (.arg 0)).eval args s none [] s = some (.int xs.length.toInt32) := hx.length_eval hb
  have hv := Cond.le_ints hev (show (Term.int 2048).eval args s none [] s = some (.int 2048) from rfl)
  have hd : xs.length.toInt32 ≤ 2048 := by
    simpa [Cond.before, Cond.holds, hv] using hle
  have hN : xs.length ≤ 2048 := (Int32.ofNat_le_ofNat hsm (by decide)).mp (show Int32.ofNat xs.length ≤ Int32.ofNat 2048 from hd)
  exact ⟨b, xs, Cond.one_arg hc (show args[0]? = some (.ref b) from hb), hx, hN, h⟩
theorem lw_comes (l : Launch) (hflags : l.flags = flags0) : Comes l x (Jvm.Cond.code x code maxLocals ret :: tables_1) room_1 (fun tb e args s => Calls_1 tb e args s ∧ rest_1 tb e args s ∧ Pre_1 tb e args s)
    (fun _ _ args s o t => lw_Q args s o t) := by
  intro p e ha hc hk s m args below hf hfit hheap happ hpre
  obtain ⟨b, xs, hP⟩ := lw_pre_spec hpre.2.2 hpre.2.1
  obtain ⟨k, o, h1, h2, h3, hQ⟩ := lw_walk l hflags b xs p e ha hc hk s m args below hf ((Spec.applies_iff_loose hf).mp happ).1 hP trivial
  exact ⟨k, o, h1, h2, h3, hQ⟩
theorem lw_frame {s t : State} {o : Outcome} {args : Array Value} (h : Framed s o t [] 40 317) :
    Framed s o t (fieldLocs frame_1_writes args s ++ arrayLocs frame_1_arrays args s ++ staticLocs frame_1_statics s) 40 317 := h
theorem lw_limb (L : Cond) (hL : ∀ (args : Array Value) (s t : State), L.after args s (.returned (some (.int 1))) t = true) :
    ArmFor flags0 classFile x code maxLocals ret World_1 tables_1 room_1 Calls_1 rest_1 Pre_1
      (fun tb e a s o t => postC L tb e a s o t ∧ Framed s o t (fieldLocs frame_1_writes a s ++ arrayLocs frame_1_arrays a s ++ staticLocs frame_1_statics s) 40 317) := by
  intro l hflags _ _ p e ha hc hk s m args below hf hfit hheap happ hpre
  obtain ⟨k, o, h1, h2, h3, rfl, hF⟩ := lw_comes l hflags p e ha hc hk s m args below hf hfit hheap happ hpre
  exact ⟨k, _, h1, h2, h3, hL args s _, lw_frame hF⟩
theorem i_vc : Claimed_1_1 ∧ Claimed_1_2 := ⟨lw_limb limb_1_1 (fun args s t => by simp [limb_1_1, Cond.after, Cond.holds, Cond.value]), lw_limb limb_1_2 (fun args s t => Cond.after_iff.mpr (by
  first | (rw [show limb_1_2 = Cond.eq .result (.int 1) from rfl, Cond.eq_ints (x := 1) (y := 1) rfl rfl]; simp; done) | (simp [limb_1_2, Cond.value, Term.eval]; done)))⟩
end
