-- ===== PART A: goes FIRST, ahead of the names: the tables' words, and 'selects' of the private methods out of them =====
/-- a private method of a class that the tables say can be made, by its rows of tables_1 -/
def lw_okq (q : MethodName × Nat) : Prop := (q.1.cls ≠ "java/lang/invoke/MethodHandle" ∧ q.1.cls ≠ "java/lang/invoke/VarHandle") ∧ Cond.instantiable q.1.cls q.2 ∈ tables_1 ∧ Cond.privateMethod q.1 ∈ tables_1 ∧ Cond.instanceMethod q.1 ∈ tables_1
theorem lw_p0 : lw_okq (⟨"MirrorClerks", "clerksSeeing", "(IZ)I"⟩, 11) := ⟨⟨by decide +kernel, by decide +kernel⟩, List.mem_of_getElem? (i := 18) (by decide +kernel), List.mem_of_getElem? (i := 383) (by decide +kernel), List.mem_of_getElem? (i := 384) (by decide +kernel)⟩
theorem lw_p1 : lw_okq (⟨"MirrorClerks$Sight", "comeTo", "(I)V"⟩, 3) := ⟨⟨by decide +kernel, by decide +kernel⟩, List.mem_of_getElem? (i := 110) (by decide +kernel), List.mem_of_getElem? (i := 400) (by decide +kernel), List.mem_of_getElem? (i := 401) (by decide +kernel)⟩
theorem lw_p2 : lw_okq (⟨"MirrorClerks", "seenByAny", "(I)I"⟩, 11) := ⟨⟨by decide +kernel, by decide +kernel⟩, List.mem_of_getElem? (i := 18) (by decide +kernel), List.mem_of_getElem? (i := 482) (by decide +kernel), List.mem_of_getElem? (i := 483) (by decide +kernel)⟩
theorem lw_p3 : lw_okq (⟨"MirrorClerks$Walk", "choose", "(LMirrorClerks$House;II)V"⟩, 2) := ⟨⟨by decide +kernel, by decide +kernel⟩, List.mem_of_getElem? (i := 129) (by decide +kernel), List.mem_of_getElem? (i := 499) (by decide +kernel), List.mem_of_getElem? (i := 500) (by decide +kernel)⟩
theorem lw_p4 : lw_okq (⟨"MirrorClerks", "seenWithPost", "(II)I"⟩, 11) := ⟨⟨by decide +kernel, by decide +kernel⟩, List.mem_of_getElem? (i := 18) (by decide +kernel), List.mem_of_getElem? (i := 526) (by decide +kernel), List.mem_of_getElem? (i := 527) (by decide +kernel)⟩
theorem lw_p5 : lw_okq (⟨"MirrorClerks", "fewestTilted", "(I)I"⟩, 11) := ⟨⟨by decide +kernel, by decide +kernel⟩, List.mem_of_getElem? (i := 18) (by decide +kernel), List.mem_of_getElem? (i := 542) (by decide +kernel), List.mem_of_getElem? (i := 543) (by decide +kernel)⟩
theorem lw_p6 : lw_okq (⟨"MirrorClerks$Rows", "goOn", "(LMirrorClerks$House;II)V"⟩, 2) := ⟨⟨by decide +kernel, by decide +kernel⟩, List.mem_of_getElem? (i := 142) (by decide +kernel), List.mem_of_getElem? (i := 574) (by decide +kernel), List.mem_of_getElem? (i := 575) (by decide +kernel)⟩
theorem lw_p7 : lw_okq (⟨"MirrorClerks$Days", "goByDraw", "(LMirrorClerks$House;II)V"⟩, 3) := ⟨⟨by decide +kernel, by decide +kernel⟩, List.mem_of_getElem? (i := 155) (by decide +kernel), List.mem_of_getElem? (i := 601) (by decide +kernel), List.mem_of_getElem? (i := 602) (by decide +kernel)⟩
theorem lw_p8 : lw_okq (⟨"MirrorClerksModel", "faultOf", "()I"⟩, 31) := ⟨⟨by decide +kernel, by decide +kernel⟩, List.mem_of_getElem? (i := 646) (by decide +kernel), List.mem_of_getElem? (i := 762) (by decide +kernel), List.mem_of_getElem? (i := 763) (by decide +kernel)⟩
theorem lw_p9 : lw_okq (⟨"MirrorClerksModel", "floors", "()I"⟩, 31) := ⟨⟨by decide +kernel, by decide +kernel⟩, List.mem_of_getElem? (i := 646) (by decide +kernel), List.mem_of_getElem? (i := 777) (by decide +kernel), List.mem_of_getElem? (i := 778) (by decide +kernel)⟩
theorem lw_p10 : lw_okq (⟨"MirrorClerksModel", "isCell", "(I)Z"⟩, 31) := ⟨⟨by decide +kernel, by decide +kernel⟩, List.mem_of_getElem? (i := 646) (by decide +kernel), List.mem_of_getElem? (i := 785) (by decide +kernel), List.mem_of_getElem? (i := 786) (by decide +kernel)⟩
theorem lw_p11 : lw_okq (⟨"MirrorClerksModel", "lacks", "()Z"⟩, 31) := ⟨⟨by decide +kernel, by decide +kernel⟩, List.mem_of_getElem? (i := 646) (by decide +kernel), List.mem_of_getElem? (i := 790) (by decide +kernel), List.mem_of_getElem? (i := 791) (by decide +kernel)⟩
theorem lw_p12 : lw_okq (⟨"MirrorClerksModel", "tellCell", "(II)I"⟩, 31) := ⟨⟨by decide +kernel, by decide +kernel⟩, List.mem_of_getElem? (i := 646) (by decide +kernel), List.mem_of_getElem? (i := 794) (by decide +kernel), List.mem_of_getElem? (i := 795) (by decide +kernel)⟩
theorem lw_p13 : lw_okq (⟨"MirrorClerksModel", "laySight", "(II)V"⟩, 31) := ⟨⟨by decide +kernel, by decide +kernel⟩, List.mem_of_getElem? (i := 646) (by decide +kernel), List.mem_of_getElem? (i := 798) (by decide +kernel), List.mem_of_getElem? (i := 799) (by decide +kernel)⟩
theorem lw_p14 : lw_okq (⟨"MirrorClerksModel", "turned", "(II)I"⟩, 31) := ⟨⟨by decide +kernel, by decide +kernel⟩, List.mem_of_getElem? (i := 646) (by decide +kernel), List.mem_of_getElem? (i := 805) (by decide +kernel), List.mem_of_getElem? (i := 806) (by decide +kernel)⟩
theorem lw_p15 : lw_okq (⟨"MirrorClerksModel", "isClerk", "(I)Z"⟩, 31) := ⟨⟨by decide +kernel, by decide +kernel⟩, List.mem_of_getElem? (i := 646) (by decide +kernel), List.mem_of_getElem? (i := 830) (by decide +kernel), List.mem_of_getElem? (i := 831) (by decide +kernel)⟩
def lw_privs_1 : List (MethodName × Nat) := [(⟨"MirrorClerks", "clerksSeeing", "(IZ)I"⟩, 11), (⟨"MirrorClerks$Sight", "comeTo", "(I)V"⟩, 3), (⟨"MirrorClerks", "seenByAny", "(I)I"⟩, 11), (⟨"MirrorClerks$Walk", "choose", "(LMirrorClerks$House;II)V"⟩, 2), (⟨"MirrorClerks", "seenWithPost", "(II)I"⟩, 11), (⟨"MirrorClerks", "fewestTilted", "(I)I"⟩, 11), (⟨"MirrorClerks$Rows", "goOn", "(LMirrorClerks$House;II)V"⟩, 2), (⟨"MirrorClerks$Days", "goByDraw", "(LMirrorClerks$House;II)V"⟩, 3), (⟨"MirrorClerksModel", "faultOf", "()I"⟩, 31), (⟨"MirrorClerksModel", "floors", "()I"⟩, 31), (⟨"MirrorClerksModel", "isCell", "(I)Z"⟩, 31), (⟨"MirrorClerksModel", "lacks", "()Z"⟩, 31), (⟨"MirrorClerksModel", "tellCell", "(II)I"⟩, 31), (⟨"MirrorClerksModel", "laySight", "(II)V"⟩, 31), (⟨"MirrorClerksModel", "turned", "(II)I"⟩, 31), (⟨"MirrorClerksModel", "isClerk", "(I)Z"⟩, 31)]
theorem lw_r1 : ∀ q ∈ lw_privs_1, lw_okq q := List.forall_mem_cons.mpr ⟨lw_p0, List.forall_mem_cons.mpr ⟨lw_p1, List.forall_mem_cons.mpr ⟨lw_p2, List.forall_mem_cons.mpr ⟨lw_p3, List.forall_mem_cons.mpr ⟨lw_p4, List.forall_mem_cons.mpr ⟨lw_p5, List.forall_mem_cons.mpr ⟨lw_p6, List.forall_mem_cons.mpr ⟨lw_p7, List.forall_mem_cons.mpr ⟨lw_p8, List.forall_mem_cons.mpr ⟨lw_p9, List.forall_mem_cons.mpr ⟨lw_p10, List.forall_mem_cons.mpr ⟨lw_p11, List.forall_mem_cons.mpr ⟨lw_p12, List.forall_mem_cons.mpr ⟨lw_p13, List.forall_mem_cons.mpr ⟨lw_p14, List.forall_mem_cons.mpr ⟨lw_p15, fun _ h => absurd h List.not_mem_nil⟩⟩⟩⟩⟩⟩⟩⟩⟩⟩⟩⟩⟩⟩⟩⟩
theorem lw_p16 : lw_okq (⟨"MirrorClerksModel", "tellClerk", "(II)I"⟩, 31) := ⟨⟨by decide +kernel, by decide +kernel⟩, List.mem_of_getElem? (i := 646) (by decide +kernel), List.mem_of_getElem? (i := 838) (by decide +kernel), List.mem_of_getElem? (i := 839) (by decide +kernel)⟩
theorem lw_p17 : lw_okq (⟨"MirrorClerksModel", "isPerson", "(I)Z"⟩, 31) := ⟨⟨by decide +kernel, by decide +kernel⟩, List.mem_of_getElem? (i := 646) (by decide +kernel), List.mem_of_getElem? (i := 850) (by decide +kernel), List.mem_of_getElem? (i := 851) (by decide +kernel)⟩
theorem lw_p18 : lw_okq (⟨"MirrorClerksModel", "stepTo", "(II)I"⟩, 31) := ⟨⟨by decide +kernel, by decide +kernel⟩, List.mem_of_getElem? (i := 646) (by decide +kernel), List.mem_of_getElem? (i := 858) (by decide +kernel), List.mem_of_getElem? (i := 859) (by decide +kernel)⟩
theorem lw_p19 : lw_okq (⟨"MirrorClerksModel", "seenBits", "()I"⟩, 31) := ⟨⟨by decide +kernel, by decide +kernel⟩, List.mem_of_getElem? (i := 646) (by decide +kernel), List.mem_of_getElem? (i := 862) (by decide +kernel), List.mem_of_getElem? (i := 863) (by decide +kernel)⟩
theorem lw_p20 : lw_okq (⟨"MirrorClerksModel", "layFar", "(I)V"⟩, 31) := ⟨⟨by decide +kernel, by decide +kernel⟩, List.mem_of_getElem? (i := 646) (by decide +kernel), List.mem_of_getElem? (i := 871) (by decide +kernel), List.mem_of_getElem? (i := 872) (by decide +kernel)⟩
theorem lw_p21 : lw_okq (⟨"MirrorClerksModel", "postOf", "(I)I"⟩, 31) := ⟨⟨by decide +kernel, by decide +kernel⟩, List.mem_of_getElem? (i := 646) (by decide +kernel), List.mem_of_getElem? (i := 880) (by decide +kernel), List.mem_of_getElem? (i := 881) (by decide +kernel)⟩
theorem lw_p22 : lw_okq (⟨"MirrorClerksModel", "tiltOf", "(I)I"⟩, 31) := ⟨⟨by decide +kernel, by decide +kernel⟩, List.mem_of_getElem? (i := 646) (by decide +kernel), List.mem_of_getElem? (i := 891) (by decide +kernel), List.mem_of_getElem? (i := 892) (by decide +kernel)⟩
theorem lw_p23 : lw_okq (⟨"MirrorClerksModel", "change", "(I)V"⟩, 31) := ⟨⟨by decide +kernel, by decide +kernel⟩, List.mem_of_getElem? (i := 646) (by decide +kernel), List.mem_of_getElem? (i := 898) (by decide +kernel), List.mem_of_getElem? (i := 899) (by decide +kernel)⟩
theorem lw_p24 : lw_okq (⟨"MirrorClerksModel", "fitsOf", "(II)I"⟩, 31) := ⟨⟨by decide +kernel, by decide +kernel⟩, List.mem_of_getElem? (i := 646) (by decide +kernel), List.mem_of_getElem? (i := 915) (by decide +kernel), List.mem_of_getElem? (i := 916) (by decide +kernel)⟩
theorem lw_p25 : lw_okq (⟨"MirrorClerksModel", "draw", "(I)I"⟩, 31) := ⟨⟨by decide +kernel, by decide +kernel⟩, List.mem_of_getElem? (i := 646) (by decide +kernel), List.mem_of_getElem? (i := 927) (by decide +kernel), List.mem_of_getElem? (i := 928) (by decide +kernel)⟩
theorem lw_p26 : lw_okq (⟨"MirrorClerksModel", "enteredAll", "()I"⟩, 31) := ⟨⟨by decide +kernel, by decide +kernel⟩, List.mem_of_getElem? (i := 646) (by decide +kernel), List.mem_of_getElem? (i := 939) (by decide +kernel), List.mem_of_getElem? (i := 940) (by decide +kernel)⟩
theorem lw_p27 : lw_okq (⟨"MirrorClerksModel", "countOf", "(I)I"⟩, 31) := ⟨⟨by decide +kernel, by decide +kernel⟩, List.mem_of_getElem? (i := 646) (by decide +kernel), List.mem_of_getElem? (i := 951) (by decide +kernel), List.mem_of_getElem? (i := 952) (by decide +kernel)⟩
theorem lw_p28 : lw_okq (⟨"MirrorClerksModel", "say", "(J)V"⟩, 31) := ⟨⟨by decide +kernel, by decide +kernel⟩, List.mem_of_getElem? (i := 646) (by decide +kernel), List.mem_of_getElem? (i := 960) (by decide +kernel), List.mem_of_getElem? (i := 961) (by decide +kernel)⟩
def lw_privs_2 : List (MethodName × Nat) := [(⟨"MirrorClerksModel", "tellClerk", "(II)I"⟩, 31), (⟨"MirrorClerksModel", "isPerson", "(I)Z"⟩, 31), (⟨"MirrorClerksModel", "stepTo", "(II)I"⟩, 31), (⟨"MirrorClerksModel", "seenBits", "()I"⟩, 31), (⟨"MirrorClerksModel", "layFar", "(I)V"⟩, 31), (⟨"MirrorClerksModel", "postOf", "(I)I"⟩, 31), (⟨"MirrorClerksModel", "tiltOf", "(I)I"⟩, 31), (⟨"MirrorClerksModel", "change", "(I)V"⟩, 31), (⟨"MirrorClerksModel", "fitsOf", "(II)I"⟩, 31), (⟨"MirrorClerksModel", "draw", "(I)I"⟩, 31), (⟨"MirrorClerksModel", "enteredAll", "()I"⟩, 31), (⟨"MirrorClerksModel", "countOf", "(I)I"⟩, 31), (⟨"MirrorClerksModel", "say", "(J)V"⟩, 31)]
theorem lw_r2 : ∀ q ∈ lw_privs_2, lw_okq q := List.forall_mem_cons.mpr ⟨lw_p16, List.forall_mem_cons.mpr ⟨lw_p17, List.forall_mem_cons.mpr ⟨lw_p18, List.forall_mem_cons.mpr ⟨lw_p19, List.forall_mem_cons.mpr ⟨lw_p20, List.forall_mem_cons.mpr ⟨lw_p21, List.forall_mem_cons.mpr ⟨lw_p22, List.forall_mem_cons.mpr ⟨lw_p23, List.forall_mem_cons.mpr ⟨lw_p24, List.forall_mem_cons.mpr ⟨lw_p25, List.forall_mem_cons.mpr ⟨lw_p26, List.forall_mem_cons.mpr ⟨lw_p27, List.forall_mem_cons.mpr ⟨lw_p28, fun _ h => absurd h List.not_mem_nil⟩⟩⟩⟩⟩⟩⟩⟩⟩⟩⟩⟩⟩
def lw_privs : List (MethodName × Nat) := lw_privs_1 ++ (lw_privs_2)
def lw_tbl : List Cond := k2_sels lw_privs ++ tables_1
theorem lw_privs_ok : ∀ q ∈ lw_privs, lw_okq q := by
  show ∀ q ∈ lw_privs_1 ++ (lw_privs_2), lw_okq q
  exact List.forall_mem_append.mpr ⟨lw_r1, lw_r2⟩
/-! ===== BEGIN words of one list among another's, by their places ===== -/
theorem goodIn_r {big : List Cond} (ws : List Cond) (ps : List Nat) (hp : ws = ps.filterMap (fun i => big[i]?)) (h : ws.all goodWord = true) : GoodIn big ws := by
  intro w hw
  have h1 := List.all_eq_true.mp h w hw
  rw [hp] at hw
  obtain ⟨i, -, hi⟩ := List.mem_filterMap.mp hw
  have hm : w ∈ big := by first | exact List.mem_of_getElem? hi | exact List.getElem?_mem hi
  exact ⟨hm, good_of_word h1⟩
theorem goodIn_app {big a b : List Cond} (ha : GoodIn big a) (hb : GoodIn big b) : GoodIn big (a ++ b) := fun w h => (List.mem_append.mp h).elim (ha w) (hb w)
theorem goodIn_ca {big a b : List Cond} {c : Cond} (ha : GoodIn big (c :: a)) (hb : GoodIn big b) : GoodIn big (c :: (a ++ b)) := fun w h => (List.mem_cons.mp h).elim (fun e => ha w (List.mem_cons.mpr (Or.inl e))) (fun h => (List.mem_append.mp h).elim (fun h => ha w (List.mem_cons.mpr (Or.inr h))) (hb w))
theorem goodIn_sub {big ws : List Cond} (hm : ∀ w ∈ ws, w ∈ big) (h : ws.all goodWord = true) : GoodIn big ws := fun w hw => ⟨hm w hw, good_of_word (List.all_eq_true.mp h w hw)⟩
/-! ===== END ===== -/

/-! ===== BEGIN printed: names, fields, word lists, decode rows ===== -/
def RX0 : String := "MirrorClerks$Days"
def TX0 : u_T := fun k => match k with
  | 0 => ("MirrorClerks$Days", "cells", "[I", true)
  | 1 => ("MirrorClerks$Days", "entries", "I", false)
  | _ => ("MirrorClerks$Days", "seed", "I", false)
def tyX0 : Nat → FieldType := fun k => match k with
  | 0 => .array .int
  | 1 => .int
  | _ => .int
abbrev wsX00 : List Cond := u_ws RX0 TX0 3
theorem nmX0 : ∀ a, a < 3 → ∀ b, b < 3 → a ≠ b → (TX0 a).2.1 ≠ (TX0 b).2.1 := by decide +kernel
theorem tyX0_ok : ∀ k, k < 3 → parseFieldDescriptor (TX0 k).2.2.1 = some (tyX0 k) := by decide +kernel
abbrev cX0_init : ByteArray := prog_2_method_1_code
def yX0_init : MethodName := ⟨RX0, "<init>", "()V"⟩
abbrev cX0_reckon : ByteArray := prog_2_method_2_code
def yX0_reckon : MethodName := ⟨RX0, "reckon", "(LMirrorClerks$House;LMirrorClerks$Scene;III)V"⟩
abbrev cX0_goByDraw : ByteArray := prog_2_method_3_code
def yX0_goByDraw : MethodName := ⟨RX0, "goByDraw", "(LMirrorClerks$House;II)V"⟩
def RX1 : String := "MirrorClerks$House"
def TX1 : u_T := fun k => match k with
  | 0 => ("MirrorClerks$House", "signs", "[I", true)
  | 1 => ("MirrorClerks$House", "stands", "Z", false)
  | _ => ("MirrorClerks$House", "depth", "I", false)
def tyX1 : Nat → FieldType := fun k => match k with
  | 0 => .array .int
  | 1 => .boolean
  | _ => .int
abbrev wsX10 : List Cond := u_ws RX1 TX1 3
theorem nmX1 : ∀ a, a < 3 → ∀ b, b < 3 → a ≠ b → (TX1 a).2.1 ≠ (TX1 b).2.1 := by decide +kernel
theorem tyX1_ok : ∀ k, k < 3 → parseFieldDescriptor (TX1 k).2.2.1 = some (tyX1 k) := by decide +kernel
abbrev cX1_init : ByteArray := prog_3_method_1_code
def yX1_init : MethodName := ⟨RX1, "<init>", "()V"⟩
abbrev cX1_read : ByteArray := prog_3_method_2_code
def yX1_read : MethodName := ⟨RX1, "read", "(LMirrorClerks$Page;)V"⟩
abbrev cX1_has : ByteArray := prog_3_method_3_code
def yX1_has : MethodName := ⟨RX1, "has", "(I)Z"⟩
abbrev cX1_signAt : ByteArray := prog_3_method_4_code
def yX1_signAt : MethodName := ⟨RX1, "signAt", "(I)I"⟩
abbrev cX1_isFloor : ByteArray := prog_3_method_5_code
def yX1_isFloor : MethodName := ⟨RX1, "isFloor", "(I)Z"⟩
abbrev cX1_floors : ByteArray := prog_3_method_6_code
def yX1_floors : MethodName := ⟨RX1, "floors", "()I"⟩
abbrev cX1_tiltable : ByteArray := prog_3_method_7_code
def yX1_tiltable : MethodName := ⟨RX1, "tiltable", "()I"⟩
abbrev cX1_floorBeside : ByteArray := prog_3_method_8_code
def yX1_floorBeside : MethodName := ⟨RX1, "floorBeside", "(II)I"⟩
abbrev cX1_beside : ByteArray := prog_3_method_9_code
def yX1_beside : MethodName := ⟨RX1, "beside", "(II)I"⟩
def RX2 : String := "MirrorClerks$Page"
def TX2 : u_T := fun k => match k with
  | 0 => ("MirrorClerks$Page", "codes", "[I", true)
  | _ => ("MirrorClerks$Page", "letters", "I", false)
def tyX2 : Nat → FieldType := fun k => match k with
  | 0 => .array .int
  | _ => .int
abbrev wsX20 : List Cond := u_ws RX2 TX2 2
theorem nmX2 : ∀ a, a < 2 → ∀ b, b < 2 → a ≠ b → (TX2 a).2.1 ≠ (TX2 b).2.1 := by decide +kernel
theorem tyX2_ok : ∀ k, k < 2 → parseFieldDescriptor (TX2 k).2.2.1 = some (tyX2 k) := by decide +kernel
abbrev cX2_init : ByteArray := prog_4_method_1_code
def yX2_init : MethodName := ⟨RX2, "<init>", "()V"⟩
abbrev cX2_add : ByteArray := prog_4_method_2_code
def yX2_add : MethodName := ⟨RX2, "add", "(I)V"⟩
abbrev cX2_empty : ByteArray := prog_4_method_3_code
def yX2_empty : MethodName := ⟨RX2, "empty", "()V"⟩
abbrev cX2_isHouse : ByteArray := prog_4_method_4_code
def yX2_isHouse : MethodName := ⟨RX2, "isHouse", "()Z"⟩
abbrev cX2_firstFault : ByteArray := prog_4_method_5_code
def yX2_firstFault : MethodName := ⟨RX2, "firstFault", "()I"⟩
abbrev cX2_isDue : ByteArray := prog_4_method_6_code
def yX2_isDue : MethodName := ⟨RX2, "isDue", "(II)Z"⟩
abbrev cX2_signAt : ByteArray := prog_4_method_7_code
def yX2_signAt : MethodName := ⟨RX2, "signAt", "(I)I"⟩
abbrev cX2_depth : ByteArray := prog_4_method_8_code
def yX2_depth : MethodName := ⟨RX2, "depth", "()I"⟩
abbrev cX2_signOf : ByteArray := prog_4_method_9_code
def yX2_signOf : MethodName := ⟨RX2, "signOf", "(I)I"⟩
def RX3 : String := "MirrorClerks$Rows"
def TX3 : u_T := fun k => match k with
  | 0 => ("MirrorClerks$Rows", "ending", "[I", true)
  | _ => ("MirrorClerks$Rows", "longer", "[I", true)
def tyX3 : Nat → FieldType := fun k => match k with
  | 0 => .array .int
  | _ => .array .int
abbrev wsX30 : List Cond := u_ws RX3 TX3 2
theorem nmX3 : ∀ a, a < 2 → ∀ b, b < 2 → a ≠ b → (TX3 a).2.1 ≠ (TX3 b).2.1 := by decide +kernel
theorem tyX3_ok : ∀ k, k < 2 → parseFieldDescriptor (TX3 k).2.2.1 = some (tyX3 k) := by decide +kernel
abbrev cX3_init : ByteArray := prog_5_method_1_code
def yX3_init : MethodName := ⟨RX3, "<init>", "()V"⟩
abbrev cX3_reckon : ByteArray := prog_5_method_2_code
def yX3_reckon : MethodName := ⟨RX3, "reckon", "(LMirrorClerks$House;LMirrorClerks$Scene;II)V"⟩
abbrev cX3_number : ByteArray := prog_5_method_3_code
def yX3_number : MethodName := ⟨RX3, "number", "()I"⟩
abbrev cX3_ends : ByteArray := prog_5_method_4_code
def yX3_ends : MethodName := ⟨RX3, "ends", "()I"⟩
abbrev cX3_goOn : ByteArray := prog_5_method_5_code
def yX3_goOn : MethodName := ⟨RX3, "goOn", "(LMirrorClerks$House;II)V"⟩
def RX4 : String := "MirrorClerks$Scene"
def TX4 : u_T := fun k => match k with
  | 0 => ("MirrorClerks$Scene", "clerkCells", "[I", true)
  | 1 => ("MirrorClerks$Scene", "clerkWays", "[I", true)
  | 2 => ("MirrorClerks$Scene", "personCells", "[I", true)
  | 3 => ("MirrorClerks$Scene", "entries", "[I", true)
  | 4 => ("MirrorClerks$Scene", "told", "[I", true)
  | 5 => ("MirrorClerks$Scene", "clerks", "I", false)
  | 6 => ("MirrorClerks$Scene", "people", "I", false)
  | 7 => ("MirrorClerks$Scene", "steps", "I", false)
  | _ => ("MirrorClerks$Scene", "isDusk", "Z", false)
def tyX4 : Nat → FieldType := fun k => match k with
  | 0 => .array .int
  | 1 => .array .int
  | 2 => .array .int
  | 3 => .array .int
  | 4 => .array .int
  | 5 => .int
  | 6 => .int
  | 7 => .int
  | _ => .boolean
abbrev wsX40 : List Cond := u_ws RX4 TX4 9
theorem nmX4 : ∀ a, a < 9 → ∀ b, b < 9 → a ≠ b → (TX4 a).2.1 ≠ (TX4 b).2.1 := by decide +kernel
theorem tyX4_ok : ∀ k, k < 9 → parseFieldDescriptor (TX4 k).2.2.1 = some (tyX4 k) := by decide +kernel
abbrev cX4_init : ByteArray := prog_6_method_1_code
def yX4_init : MethodName := ⟨RX4, "<init>", "()V"⟩
abbrev cX4_empty : ByteArray := prog_6_method_2_code
def yX4_empty : MethodName := ⟨RX4, "empty", "()V"⟩
abbrev cX4_takeFrom : ByteArray := prog_6_method_3_code
def yX4_takeFrom : MethodName := ⟨RX4, "takeFrom", "(LMirrorClerks$Scene;)V"⟩
abbrev cX4_hasClerk : ByteArray := prog_6_method_4_code
def yX4_hasClerk : MethodName := ⟨RX4, "hasClerk", "(I)Z"⟩
abbrev cX4_hasPerson : ByteArray := prog_6_method_5_code
def yX4_hasPerson : MethodName := ⟨RX4, "hasPerson", "(I)Z"⟩
abbrev cX4_addClerk : ByteArray := prog_6_method_6_code
def yX4_addClerk : MethodName := ⟨RX4, "addClerk", "(II)I"⟩
abbrev cX4_addPerson : ByteArray := prog_6_method_7_code
def yX4_addPerson : MethodName := ⟨RX4, "addPerson", "(I)I"⟩
abbrev cX4_addStep : ByteArray := prog_6_method_8_code
def yX4_addStep : MethodName := ⟨RX4, "addStep", "(I)V"⟩
abbrev cX4_peopleAt : ByteArray := prog_6_method_9_code
def yX4_peopleAt : MethodName := ⟨RX4, "peopleAt", "(I)I"⟩
abbrev cX4_allEntries : ByteArray := prog_6_method_10_code
def yX4_allEntries : MethodName := ⟨RX4, "allEntries", "()I"⟩
def RX5 : String := "MirrorClerks$Sight"
def TX5 : u_T := fun k => match k with
  | 0 => ("MirrorClerks$Sight", "seen", "I", false)
  | 1 => ("MirrorClerks$Sight", "left", "I", false)
  | _ => ("MirrorClerks$Sight", "turns", "I", false)
def tyX5 : Nat → FieldType := fun k => match k with
  | 0 => .int
  | 1 => .int
  | _ => .int
abbrev wsX50 : List Cond := u_ws RX5 TX5 3
theorem nmX5 : ∀ a, a < 3 → ∀ b, b < 3 → a ≠ b → (TX5 a).2.1 ≠ (TX5 b).2.1 := by decide +kernel
theorem tyX5_ok : ∀ k, k < 3 → parseFieldDescriptor (TX5 k).2.2.1 = some (tyX5 k) := by decide +kernel
abbrev cX5_init : ByteArray := prog_7_method_1_code
def yX5_init : MethodName := ⟨RX5, "<init>", "()V"⟩
abbrev cX5_ofClerk : ByteArray := prog_7_method_2_code
def yX5_ofClerk : MethodName := ⟨RX5, "ofClerk", "(LMirrorClerks$House;LMirrorClerks$Scene;II)V"⟩
abbrev cX5_follow : ByteArray := prog_7_method_3_code
def yX5_follow : MethodName := ⟨RX5, "follow", "(LMirrorClerks$House;ZIII)V"⟩
abbrev cX5_comeTo : ByteArray := prog_7_method_4_code
def yX5_comeTo : MethodName := ⟨RX5, "comeTo", "(I)V"⟩
abbrev cX5_turnAt : ByteArray := prog_7_method_5_code
def yX5_turnAt : MethodName := ⟨RX5, "turnAt", "(IZZ)I"⟩
def RX6 : String := "MirrorClerks$Walk"
def TX6 : u_T := fun k => match k with
  | 0 => ("MirrorClerks$Walk", "prices", "[I", true)
  | _ => ("MirrorClerks$Walk", "firstWays", "[I", true)
def tyX6 : Nat → FieldType := fun k => match k with
  | 0 => .array .int
  | _ => .array .int
abbrev wsX60 : List Cond := u_ws RX6 TX6 2
theorem nmX6 : ∀ a, a < 2 → ∀ b, b < 2 → a ≠ b → (TX6 a).2.1 ≠ (TX6 b).2.1 := by decide +kernel
theorem tyX6_ok : ∀ k, k < 2 → parseFieldDescriptor (TX6 k).2.2.1 = some (tyX6 k) := by decide +kernel
abbrev cX6_init : ByteArray := prog_8_method_1_code
def yX6_init : MethodName := ⟨RX6, "<init>", "()V"⟩
abbrev cX6_reckon : ByteArray := prog_8_method_2_code
def yX6_reckon : MethodName := ⟨RX6, "reckon", "(LMirrorClerks$House;II)V"⟩
abbrev cX6_leadsFrom : ByteArray := prog_8_method_3_code
def yX6_leadsFrom : MethodName := ⟨RX6, "leadsFrom", "(I)Z"⟩
abbrev cX6_entriesFrom : ByteArray := prog_8_method_4_code
def yX6_entriesFrom : MethodName := ⟨RX6, "entriesFrom", "(I)I"⟩
abbrev cX6_stepsFrom : ByteArray := prog_8_method_5_code
def yX6_stepsFrom : MethodName := ⟨RX6, "stepsFrom", "(I)I"⟩
abbrev cX6_firstWayFrom : ByteArray := prog_8_method_6_code
def yX6_firstWayFrom : MethodName := ⟨RX6, "firstWayFrom", "(I)I"⟩
abbrev cX6_choose : ByteArray := prog_8_method_7_code
def yX6_choose : MethodName := ⟨RX6, "choose", "(LMirrorClerks$House;II)V"⟩
def RX7 : String := "MirrorClerks"
def TX7 : u_T := fun k => match k with
  | 0 => ("MirrorClerks", "page", "LMirrorClerks$Page;", true)
  | 1 => ("MirrorClerks", "home", "LMirrorClerks$House;", true)
  | 2 => ("MirrorClerks", "scene", "LMirrorClerks$Scene;", true)
  | 3 => ("MirrorClerks", "kept", "LMirrorClerks$Scene;", true)
  | 4 => ("MirrorClerks", "sight", "LMirrorClerks$Sight;", true)
  | 5 => ("MirrorClerks", "walks", "LMirrorClerks$Walk;", true)
  | 6 => ("MirrorClerks", "rows", "LMirrorClerks$Rows;", true)
  | 7 => ("MirrorClerks", "future", "LMirrorClerks$Days;", true)
  | 8 => ("MirrorClerks", "isKept", "Z", false)
  | 9 => ("MirrorClerks", "housesRead", "I", false)
  | _ => ("MirrorClerks", "tiltsDone", "I", false)
def tyX7 : Nat → FieldType := fun k => match k with
  | 0 => .object "MirrorClerks$Page"
  | 1 => .object "MirrorClerks$House"
  | 2 => .object "MirrorClerks$Scene"
  | 3 => .object "MirrorClerks$Scene"
  | 4 => .object "MirrorClerks$Sight"
  | 5 => .object "MirrorClerks$Walk"
  | 6 => .object "MirrorClerks$Rows"
  | 7 => .object "MirrorClerks$Days"
  | 8 => .boolean
  | 9 => .int
  | _ => .int
abbrev wsX70 : List Cond := u_ws RX7 TX7 11
theorem nmX7 : ∀ a, a < 11 → ∀ b, b < 11 → a ≠ b → (TX7 a).2.1 ≠ (TX7 b).2.1 := by decide +kernel
theorem tyX7_ok : ∀ k, k < 11 → parseFieldDescriptor (TX7 k).2.2.1 = some (tyX7 k) := by decide +kernel
abbrev cX7_init : ByteArray := prog_1_method_1_code
def yX7_init : MethodName := ⟨RX7, "<init>", "()V"⟩
abbrev cX7_letter : ByteArray := prog_1_method_2_code
def yX7_letter : MethodName := ⟨RX7, "letter", "(I)I"⟩
abbrev cX7_blank : ByteArray := prog_1_method_3_code
def yX7_blank : MethodName := ⟨RX7, "blank", "()I"⟩
abbrev cX7_fault : ByteArray := prog_1_method_4_code
def yX7_fault : MethodName := ⟨RX7, "fault", "()I"⟩
abbrev cX7_house : ByteArray := prog_1_method_5_code
def yX7_house : MethodName := ⟨RX7, "house", "()I"⟩
abbrev cX7_cell : ByteArray := prog_1_method_6_code
def yX7_cell : MethodName := ⟨RX7, "cell", "(II)I"⟩
abbrev cX7_as : ByteArray := prog_1_method_7_code
def yX7_as : MethodName := ⟨RX7, "as", "(II)I"⟩
abbrev cX7_dusk : ByteArray := prog_1_method_8_code
def yX7_dusk : MethodName := ⟨RX7, "dusk", "(Z)I"⟩
abbrev cX7_clerk : ByteArray := prog_1_method_9_code
def yX7_clerk : MethodName := ⟨RX7, "clerk", "(II)I"⟩
abbrev cX7_look : ByteArray := prog_1_method_10_code
def yX7_look : MethodName := ⟨RX7, "look", "(II)I"⟩
abbrev cX7_clerkOf : ByteArray := prog_1_method_11_code
def yX7_clerkOf : MethodName := ⟨RX7, "clerkOf", "(II)I"⟩
abbrev cX7_person : ByteArray := prog_1_method_12_code
def yX7_person : MethodName := ⟨RX7, "person", "(I)I"⟩
abbrev cX7_personOf : ByteArray := prog_1_method_13_code
def yX7_personOf : MethodName := ⟨RX7, "personOf", "(II)I"⟩
abbrev cX7_step : ByteArray := prog_1_method_14_code
def yX7_step : MethodName := ⟨RX7, "step", "(II)I"⟩
abbrev cX7_walk : ByteArray := prog_1_method_15_code
def yX7_walk : MethodName := ⟨RX7, "walk", "(III)I"⟩
abbrev cX7_post : ByteArray := prog_1_method_16_code
def yX7_post : MethodName := ⟨RX7, "post", "(I)I"⟩
abbrev cX7_tilt : ByteArray := prog_1_method_17_code
def yX7_tilt : MethodName := ⟨RX7, "tilt", "(II)I"⟩
abbrev cX7_ledger : ByteArray := prog_1_method_18_code
def yX7_ledger : MethodName := ⟨RX7, "ledger", "(I)I"⟩
abbrev cX7_forget : ByteArray := prog_1_method_19_code
def yX7_forget : MethodName := ⟨RX7, "forget", "()I"⟩
abbrev cX7_fits : ByteArray := prog_1_method_20_code
def yX7_fits : MethodName := ⟨RX7, "fits", "(II)I"⟩
abbrev cX7_days : ByteArray := prog_1_method_21_code
def yX7_days : MethodName := ⟨RX7, "days", "(III)I"⟩
abbrev cX7_image : ByteArray := prog_1_method_22_code
def yX7_image : MethodName := ⟨RX7, "image", "()I"⟩
abbrev cX7_restore : ByteArray := prog_1_method_23_code
def yX7_restore : MethodName := ⟨RX7, "restore", "()I"⟩
abbrev cX7_count : ByteArray := prog_1_method_24_code
def yX7_count : MethodName := ⟨RX7, "count", "(I)I"⟩
abbrev cX7_digest : ByteArray := prog_1_method_25_code
def yX7_digest : MethodName := ⟨RX7, "digest", "()J"⟩
abbrev cX7_clerksSeeing : ByteArray := prog_1_method_26_code
def yX7_clerksSeeing : MethodName := ⟨RX7, "clerksSeeing", "(IZ)I"⟩
abbrev cX7_seenByAny : ByteArray := prog_1_method_27_code
def yX7_seenByAny : MethodName := ⟨RX7, "seenByAny", "(I)I"⟩
abbrev cX7_seenWithPost : ByteArray := prog_1_method_28_code
def yX7_seenWithPost : MethodName := ⟨RX7, "seenWithPost", "(II)I"⟩
abbrev cX7_fewestTilted : ByteArray := prog_1_method_29_code
def yX7_fewestTilted : MethodName := ⟨RX7, "fewestTilted", "(I)I"⟩
abbrev cX7_isOfKind : ByteArray := prog_1_method_30_code
def yX7_isOfKind : MethodName := ⟨RX7, "isOfKind", "(II)Z"⟩
abbrev cX7_isWay : ByteArray := prog_1_method_31_code
def yX7_isWay : MethodName := ⟨RX7, "isWay", "(I)Z"⟩
abbrev cX7_oneIf : ByteArray := prog_1_method_32_code
def yX7_oneIf : MethodName := ⟨RX7, "oneIf", "(Z)I"⟩
abbrev cX7_bit : ByteArray := prog_1_method_33_code
def yX7_bit : MethodName := ⟨RX7, "bit", "(II)I"⟩
abbrev cX7_at : ByteArray := prog_1_method_34_code
def yX7_at : MethodName := ⟨RX7, "at", "([II)I"⟩
abbrev cX7_put : ByteArray := prog_1_method_35_code
def yX7_put : MethodName := ⟨RX7, "put", "([III)V"⟩
abbrev cX7_fill : ByteArray := prog_1_method_36_code
def yX7_fill : MethodName := ⟨RX7, "fill", "([II)V"⟩
abbrev cX7_copy : ByteArray := prog_1_method_37_code
def yX7_copy : MethodName := ⟨RX7, "copy", "([I[I)V"⟩
def RX8 : String := "MirrorClerksModel"
def TX8 : u_T := fun k => match k with
  | 0 => ("MirrorClerksModel", "page", "[I", true)
  | 1 => ("MirrorClerksModel", "pageMany", "I", false)
  | 2 => ("MirrorClerksModel", "deep", "I", false)
  | 3 => ("MirrorClerksModel", "duskNow", "I", false)
  | 4 => ("MirrorClerksModel", "housesRead", "I", false)
  | 5 => ("MirrorClerksModel", "signs", "[I", true)
  | 6 => ("MirrorClerksModel", "sightBits", "I", false)
  | 7 => ("MirrorClerksModel", "leftBits", "I", false)
  | 8 => ("MirrorClerksModel", "turns", "I", false)
  | 9 => ("MirrorClerksModel", "clerks", "I", false)
  | 10 => ("MirrorClerksModel", "people", "I", false)
  | 11 => ("MirrorClerksModel", "clerkRows", "[I", true)
  | 12 => ("MirrorClerksModel", "personRows", "[I", true)
  | 13 => ("MirrorClerksModel", "far", "[I", true)
  | 14 => ("MirrorClerksModel", "firsts", "[I", true)
  | 15 => ("MirrorClerksModel", "tiltMany", "I", false)
  | 16 => ("MirrorClerksModel", "ledgerMany", "I", false)
  | 17 => ("MirrorClerksModel", "ledgers", "[I", true)
  | 18 => ("MirrorClerksModel", "now", "[I", true)
  | 19 => ("MirrorClerksModel", "next", "[I", true)
  | 20 => ("MirrorClerksModel", "seedNow", "I", false)
  | 21 => ("MirrorClerksModel", "where", "[I", true)
  | 22 => ("MirrorClerksModel", "keptHouse", "I", false)
  | 23 => ("MirrorClerksModel", "keptDusk", "I", false)
  | 24 => ("MirrorClerksModel", "keptClerks", "I", false)
  | 25 => ("MirrorClerksModel", "keptPeople", "I", false)
  | 26 => ("MirrorClerksModel", "keptLedgerMany", "I", false)
  | 27 => ("MirrorClerksModel", "keptClerkRows", "[I", true)
  | 28 => ("MirrorClerksModel", "keptPersonRows", "[I", true)
  | 29 => ("MirrorClerksModel", "keptLedgers", "[I", true)
  | _ => ("MirrorClerksModel", "hash", "J", false)
def tyX8 : Nat → FieldType := fun k => match k with
  | 0 => .array .int
  | 1 => .int
  | 2 => .int
  | 3 => .int
  | 4 => .int
  | 5 => .array .int
  | 6 => .int
  | 7 => .int
  | 8 => .int
  | 9 => .int
  | 10 => .int
  | 11 => .array .int
  | 12 => .array .int
  | 13 => .array .int
  | 14 => .array .int
  | 15 => .int
  | 16 => .int
  | 17 => .array .int
  | 18 => .array .int
  | 19 => .array .int
  | 20 => .int
  | 21 => .array .int
  | 22 => .int
  | 23 => .int
  | 24 => .int
  | 25 => .int
  | 26 => .int
  | 27 => .array .int
  | 28 => .array .int
  | 29 => .array .int
  | _ => .long
abbrev wsX80 : List Cond := u_ws RX8 TX8 31
theorem nmX8 : ∀ a, a < 31 → ∀ b, b < 31 → a ≠ b → (TX8 a).2.1 ≠ (TX8 b).2.1 := by decide +kernel
theorem tyX8_ok : ∀ k, k < 31 → parseFieldDescriptor (TX8 k).2.2.1 = some (tyX8 k) := by decide +kernel
abbrev cX8_init : ByteArray := prog_10_method_1_code
def yX8_init : MethodName := ⟨RX8, "<init>", "()V"⟩
abbrev cX8_in : ByteArray := prog_10_method_2_code
def yX8_in : MethodName := ⟨RX8, "in", "(JJJ)Z"⟩
abbrev cX8_letter : ByteArray := prog_10_method_3_code
def yX8_letter : MethodName := ⟨RX8, "letter", "(I)I"⟩
abbrev cX8_blank : ByteArray := prog_10_method_4_code
def yX8_blank : MethodName := ⟨RX8, "blank", "()I"⟩
abbrev cX8_signOf : ByteArray := prog_10_method_5_code
def yX8_signOf : MethodName := ⟨RX8, "signOf", "(I)I"⟩
abbrev cX8_isGood : ByteArray := prog_10_method_6_code
def yX8_isGood : MethodName := ⟨RX8, "isGood", "(II)Z"⟩
abbrev cX8_faultOf : ByteArray := prog_10_method_7_code
def yX8_faultOf : MethodName := ⟨RX8, "faultOf", "()I"⟩
abbrev cX8_fault : ByteArray := prog_10_method_8_code
def yX8_fault : MethodName := ⟨RX8, "fault", "()I"⟩
abbrev cX8_floors : ByteArray := prog_10_method_9_code
def yX8_floors : MethodName := ⟨RX8, "floors", "()I"⟩
abbrev cX8_house : ByteArray := prog_10_method_10_code
def yX8_house : MethodName := ⟨RX8, "house", "()I"⟩
abbrev cX8_lacks : ByteArray := prog_10_method_11_code
def yX8_lacks : MethodName := ⟨RX8, "lacks", "()Z"⟩
abbrev cX8_isCell : ByteArray := prog_10_method_12_code
def yX8_isCell : MethodName := ⟨RX8, "isCell", "(I)Z"⟩
abbrev cX8_beside : ByteArray := prog_10_method_13_code
def yX8_beside : MethodName := ⟨RX8, "beside", "(II)I"⟩
abbrev cX8_turned : ByteArray := prog_10_method_14_code
def yX8_turned : MethodName := ⟨RX8, "turned", "(II)I"⟩
abbrev cX8_laySight : ByteArray := prog_10_method_15_code
def yX8_laySight : MethodName := ⟨RX8, "laySight", "(II)V"⟩
abbrev cX8_isClerk : ByteArray := prog_10_method_16_code
def yX8_isClerk : MethodName := ⟨RX8, "isClerk", "(I)Z"⟩
abbrev cX8_isPerson : ByteArray := prog_10_method_17_code
def yX8_isPerson : MethodName := ⟨RX8, "isPerson", "(I)Z"⟩
abbrev cX8_isWay : ByteArray := prog_10_method_18_code
def yX8_isWay : MethodName := ⟨RX8, "isWay", "(I)Z"⟩
abbrev cX8_seenBits : ByteArray := prog_10_method_19_code
def yX8_seenBits : MethodName := ⟨RX8, "seenBits", "()I"⟩
abbrev cX8_tellCell : ByteArray := prog_10_method_20_code
def yX8_tellCell : MethodName := ⟨RX8, "tellCell", "(II)I"⟩
abbrev cX8_cell : ByteArray := prog_10_method_21_code
def yX8_cell : MethodName := ⟨RX8, "cell", "(II)I"⟩
abbrev cX8_as : ByteArray := prog_10_method_22_code
def yX8_as : MethodName := ⟨RX8, "as", "(II)I"⟩
abbrev cX8_dusk : ByteArray := prog_10_method_23_code
def yX8_dusk : MethodName := ⟨RX8, "dusk", "(Z)I"⟩
abbrev cX8_clerk : ByteArray := prog_10_method_24_code
def yX8_clerk : MethodName := ⟨RX8, "clerk", "(II)I"⟩
abbrev cX8_look : ByteArray := prog_10_method_25_code
def yX8_look : MethodName := ⟨RX8, "look", "(II)I"⟩
abbrev cX8_tellClerk : ByteArray := prog_10_method_26_code
def yX8_tellClerk : MethodName := ⟨RX8, "tellClerk", "(II)I"⟩
abbrev cX8_clerkOf : ByteArray := prog_10_method_27_code
def yX8_clerkOf : MethodName := ⟨RX8, "clerkOf", "(II)I"⟩
abbrev cX8_person : ByteArray := prog_10_method_28_code
def yX8_person : MethodName := ⟨RX8, "person", "(I)I"⟩
abbrev cX8_personOf : ByteArray := prog_10_method_29_code
def yX8_personOf : MethodName := ⟨RX8, "personOf", "(II)I"⟩
abbrev cX8_stepTo : ByteArray := prog_10_method_30_code
def yX8_stepTo : MethodName := ⟨RX8, "stepTo", "(II)I"⟩
abbrev cX8_step : ByteArray := prog_10_method_31_code
def yX8_step : MethodName := ⟨RX8, "step", "(II)I"⟩
abbrev cX8_layFar : ByteArray := prog_10_method_32_code
def yX8_layFar : MethodName := ⟨RX8, "layFar", "(I)V"⟩
abbrev cX8_walk : ByteArray := prog_10_method_33_code
def yX8_walk : MethodName := ⟨RX8, "walk", "(III)I"⟩
abbrev cX8_ones : ByteArray := prog_10_method_34_code
def yX8_ones : MethodName := ⟨RX8, "ones", "(I)I"⟩
abbrev cX8_postOf : ByteArray := prog_10_method_35_code
def yX8_postOf : MethodName := ⟨RX8, "postOf", "(I)I"⟩
abbrev cX8_post : ByteArray := prog_10_method_36_code
def yX8_post : MethodName := ⟨RX8, "post", "(I)I"⟩
abbrev cX8_mayTilt : ByteArray := prog_10_method_37_code
def yX8_mayTilt : MethodName := ⟨RX8, "mayTilt", "(I)Z"⟩
abbrev cX8_change : ByteArray := prog_10_method_38_code
def yX8_change : MethodName := ⟨RX8, "change", "(I)V"⟩
abbrev cX8_tiltOf : ByteArray := prog_10_method_39_code
def yX8_tiltOf : MethodName := ⟨RX8, "tiltOf", "(I)I"⟩
abbrev cX8_tilt : ByteArray := prog_10_method_40_code
def yX8_tilt : MethodName := ⟨RX8, "tilt", "(II)I"⟩
abbrev cX8_ledger : ByteArray := prog_10_method_41_code
def yX8_ledger : MethodName := ⟨RX8, "ledger", "(I)I"⟩
abbrev cX8_forget : ByteArray := prog_10_method_42_code
def yX8_forget : MethodName := ⟨RX8, "forget", "()I"⟩
abbrev cX8_fitsOf : ByteArray := prog_10_method_43_code
def yX8_fitsOf : MethodName := ⟨RX8, "fitsOf", "(II)I"⟩
abbrev cX8_fits : ByteArray := prog_10_method_44_code
def yX8_fits : MethodName := ⟨RX8, "fits", "(II)I"⟩
abbrev cX8_draw : ByteArray := prog_10_method_45_code
def yX8_draw : MethodName := ⟨RX8, "draw", "(I)I"⟩
abbrev cX8_days : ByteArray := prog_10_method_46_code
def yX8_days : MethodName := ⟨RX8, "days", "(III)I"⟩
abbrev cX8_copy : ByteArray := prog_10_method_47_code
def yX8_copy : MethodName := ⟨RX8, "copy", "([I[I)V"⟩
abbrev cX8_enteredAll : ByteArray := prog_10_method_48_code
def yX8_enteredAll : MethodName := ⟨RX8, "enteredAll", "()I"⟩
abbrev cX8_image : ByteArray := prog_10_method_49_code
def yX8_image : MethodName := ⟨RX8, "image", "()I"⟩
abbrev cX8_restore : ByteArray := prog_10_method_50_code
def yX8_restore : MethodName := ⟨RX8, "restore", "()I"⟩
abbrev cX8_countOf : ByteArray := prog_10_method_51_code
def yX8_countOf : MethodName := ⟨RX8, "countOf", "(I)I"⟩
abbrev cX8_count : ByteArray := prog_10_method_52_code
def yX8_count : MethodName := ⟨RX8, "count", "(I)I"⟩
abbrev cX8_say : ByteArray := prog_10_method_53_code
def yX8_say : MethodName := ⟨RX8, "say", "(J)V"⟩
abbrev cX8_digest : ByteArray := prog_10_method_54_code
def yX8_digest : MethodName := ⟨RX8, "digest", "()J"⟩
def RJ11 : String := "java/lang/Character"
def TJ11 : u_T := fun k => match k with
  | _ => ("", "", "", false)
def tyJ11 : Nat → FieldType := fun k => match k with
  | _ => .int
abbrev wsJ110 : List Cond := u_ws RJ11 TJ11 0
theorem nmJ11 : ∀ a, a < 0 → ∀ b, b < 0 → a ≠ b → (TJ11 a).2.1 ≠ (TJ11 b).2.1 := by decide +kernel
theorem tyJ11_ok : ∀ k, k < 0 → parseFieldDescriptor (TJ11 k).2.2.1 = some (tyJ11 k) := by decide +kernel
abbrev cJ11_isValidCodePoint_9a6ad : ByteArray := prog_11_method_11_code
def yJ11_isValidCodePoint_9a6ad : MethodName := ⟨RJ11, "isValidCodePoint", "(I)Z"⟩
abbrev cJ11_highSurrogate_5068e : ByteArray := prog_11_method_28_code
def yJ11_highSurrogate_5068e : MethodName := ⟨RJ11, "highSurrogate", "(I)C"⟩
abbrev cJ11_lowSurrogate_5068e : ByteArray := prog_11_method_29_code
def yJ11_lowSurrogate_5068e : MethodName := ⟨RJ11, "lowSurrogate", "(I)C"⟩
def RJ6 : String := "java/lang/Integer"
def TJ6 : u_T := fun k => match k with
  | _ => ("", "", "", false)
def tyJ6 : Nat → FieldType := fun k => match k with
  | _ => .int
abbrev wsJ60 : List Cond := u_ws RJ6 TJ6 0
theorem nmJ6 : ∀ a, a < 0 → ∀ b, b < 0 → a ≠ b → (TJ6 a).2.1 ≠ (TJ6 b).2.1 := by decide +kernel
theorem tyJ6_ok : ∀ k, k < 0 → parseFieldDescriptor (TJ6 k).2.2.1 = some (tyJ6 k) := by decide +kernel
abbrev cJ6_bitCount_0f7a4 : ByteArray := prog_12_method_49_code
def yJ6_bitCount_0f7a4 : MethodName := ⟨RJ6, "bitCount", "(I)I"⟩
def RJ9 : String := "java/lang/Math"
def TJ9 : u_T := fun k => match k with
  | _ => ("", "", "", false)
def tyJ9 : Nat → FieldType := fun k => match k with
  | _ => .int
abbrev wsJ90 : List Cond := u_ws RJ9 TJ9 0
theorem nmJ9 : ∀ a, a < 0 → ∀ b, b < 0 → a ≠ b → (TJ9 a).2.1 ≠ (TJ9 b).2.1 := by decide +kernel
theorem tyJ9_ok : ∀ k, k < 0 → parseFieldDescriptor (TJ9 k).2.2.1 = some (tyJ9 k) := by decide +kernel
abbrev cJ9_max_7cf53 : ByteArray := prog_13_method_65_code
def yJ9_max_7cf53 : MethodName := ⟨RJ9, "max", "(II)I"⟩
abbrev cJ9_min_7cf53 : ByteArray := prog_13_method_69_code
def yJ9_min_7cf53 : MethodName := ⟨RJ9, "min", "(II)I"⟩
def RJ0 : String := "java/lang/String"
def TJ0 : u_T := fun k => match k with
  | _ => ("", "", "", false)
def tyJ0 : Nat → FieldType := fun k => match k with
  | _ => .int
abbrev wsJ00 : List Cond := u_ws RJ0 TJ0 0
theorem nmJ0 : ∀ a, a < 0 → ∀ b, b < 0 → a ≠ b → (TJ0 a).2.1 ≠ (TJ0 b).2.1 := by decide +kernel
theorem tyJ0_ok : ∀ k, k < 0 → parseFieldDescriptor (TJ0 k).2.2.1 = some (tyJ0 k) := by decide +kernel
abbrev cJ0_length_8abf5 : ByteArray := prog_14_method_54_code
def yJ0_length_8abf5 : MethodName := ⟨RJ0, "length", "()I"⟩
abbrev cJ0_indexOf_0f7a4 : ByteArray := prog_14_method_79_code
def yJ0_indexOf_0f7a4 : MethodName := ⟨RJ0, "indexOf", "(I)I"⟩
abbrev cJ0_indexOf_7cf53 : ByteArray := prog_14_method_80_code
def yJ0_indexOf_7cf53 : MethodName := ⟨RJ0, "indexOf", "(II)I"⟩
abbrev cJ0_coder_7d493 : ByteArray := prog_14_method_152_code
def yJ0_coder_7d493 : MethodName := ⟨RJ0, "coder", "()B"⟩
abbrev cJ0_isLatin1_aae02 : ByteArray := prog_14_method_154_code
def yJ0_isLatin1_aae02 : MethodName := ⟨RJ0, "isLatin1", "()Z"⟩
abbrev cJ0_checkBoundsBeginEnd_23922 : ByteArray := prog_14_method_158_code
def yJ0_checkBoundsBeginEnd_23922 : MethodName := ⟨RJ0, "checkBoundsBeginEnd", "(III)V"⟩
def RJ1 : String := "java/lang/StringLatin1"
def TJ1 : u_T := fun k => match k with
  | _ => ("", "", "", false)
def tyJ1 : Nat → FieldType := fun k => match k with
  | _ => .int
abbrev wsJ10 : List Cond := u_ws RJ1 TJ1 0
theorem nmJ1 : ∀ a, a < 0 → ∀ b, b < 0 → a ≠ b → (TJ1 a).2.1 ≠ (TJ1 b).2.1 := by decide +kernel
theorem tyJ1_ok : ∀ k, k < 0 → parseFieldDescriptor (TJ1 k).2.2.1 = some (tyJ1 k) := by decide +kernel
abbrev cJ1_canEncode_9a6ad : ByteArray := prog_15_method_4_code
def yJ1_canEncode_9a6ad : MethodName := ⟨RJ1, "canEncode", "(I)Z"⟩
abbrev cJ1_indexOf_4cfef : ByteArray := prog_15_method_22_code
def yJ1_indexOf_4cfef : MethodName := ⟨RJ1, "indexOf", "([BIII)I"⟩
abbrev cJ1_indexOfChar_4cfef : ByteArray := prog_15_method_23_code
def yJ1_indexOfChar_4cfef : MethodName := ⟨RJ1, "indexOfChar", "([BIII)I"⟩
def RJ2 : String := "java/lang/StringUTF16"
def TJ2 : u_T := fun k => match k with
  | _ => ("", "", "", false)
def tyJ2 : Nat → FieldType := fun k => match k with
  | _ => .int
abbrev wsJ20 : List Cond := u_ws RJ2 TJ2 0
theorem nmJ2 : ∀ a, a < 0 → ∀ b, b < 0 → a ≠ b → (TJ2 a).2.1 ≠ (TJ2 b).2.1 := by decide +kernel
theorem tyJ2_ok : ∀ k, k < 0 → parseFieldDescriptor (TJ2 k).2.2.1 = some (tyJ2 k) := by decide +kernel
abbrev cJ2_getChar_3b067 : ByteArray := prog_16_method_5_code
def yJ2_getChar_3b067 : MethodName := ⟨RJ2, "getChar", "([BI)C"⟩
abbrev cJ2_length_9d52b : ByteArray := prog_16_method_6_code
def yJ2_length_9d52b : MethodName := ⟨RJ2, "length", "([B)I"⟩
abbrev cJ2_indexOf_4cfef : ByteArray := prog_16_method_40_code
def yJ2_indexOf_4cfef : MethodName := ⟨RJ2, "indexOf", "([BIII)I"⟩
abbrev cJ2_indexOfChar_4cfef : ByteArray := prog_16_method_47_code
def yJ2_indexOfChar_4cfef : MethodName := ⟨RJ2, "indexOfChar", "([BIII)I"⟩
abbrev cJ2_indexOfCharUnsafe_4cfef : ByteArray := prog_16_method_48_code
def yJ2_indexOfCharUnsafe_4cfef : MethodName := ⟨RJ2, "indexOfCharUnsafe", "([BIII)I"⟩
abbrev cJ2_indexOfSupplementary_4cfef : ByteArray := prog_16_method_49_code
def yJ2_indexOfSupplementary_4cfef : MethodName := ⟨RJ2, "indexOfSupplementary", "([BIII)I"⟩
abbrev cJ2_checkBoundsBeginEnd_d044e : ByteArray := prog_16_method_93_code
def yJ2_checkBoundsBeginEnd_d044e : MethodName := ⟨RJ2, "checkBoundsBeginEnd", "(II[B)V"⟩
def RJ3 : String := "jdk/internal/util/Preconditions"
def TJ3 : u_T := fun k => match k with
  | _ => ("", "", "", false)
def tyJ3 : Nat → FieldType := fun k => match k with
  | _ => .int
abbrev wsJ30 : List Cond := u_ws RJ3 TJ3 0
theorem nmJ3 : ∀ a, a < 0 → ∀ b, b < 0 → a ≠ b → (TJ3 a).2.1 ≠ (TJ3 b).2.1 := by decide +kernel
theorem tyJ3_ok : ∀ k, k < 0 → parseFieldDescriptor (TJ3 k).2.2.1 = some (tyJ3 k) := by decide +kernel
abbrev cJ3_checkFromToIndex_8c36e : ByteArray := prog_17_method_12_code
def yJ3_checkFromToIndex_8c36e : MethodName := ⟨RJ3, "checkFromToIndex", "(IIILjava/util/function/BiFunction;)I"⟩
def RL : String := "MirrorClerksLaw"
abbrev cL_law : ByteArray := code
def yL_law : MethodName := ⟨RL, "law", "([I)Z"⟩

abbrev vwCl : List vw_C := [(RX0, TX0, 3), (RX1, TX1, 3), (RX2, TX2, 2), (RX3, TX3, 2), (RX4, TX4, 9), (RX5, TX5, 3), (RX6, TX6, 2), (RX7, TX7, 11), (RX8, TX8, 31)]
