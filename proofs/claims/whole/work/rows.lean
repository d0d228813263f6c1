section
-- ===== PART A: goes FIRST, ahead of the names: the tables' words, and 'selects' of the private methods out of them =====
/-- a private method of a class that the tables say can be made, by its rows of tables_1 -/
def lw_okq (q : MethodName × Nat) : Prop := (q.1.cls ≠ "java/lang/invoke/MethodHandle" ∧ q.1.cls ≠ "java/lang/invoke/VarHandle") ∧ Cond.instantiable q.1.cls q.2 ∈ tables_1 ∧ Cond.privateMethod q.1 ∈ tables_1 ∧ Cond.instanceMethod q.1 ∈ tables_1
theorem lw_p0 : lw_okq (⟨"TwoTierCache$PageRow", "placeOf", "(I)I"⟩, 2) := ⟨⟨by decide +kernel, by decide +kernel⟩, List.mem_of_getElem? (i := 23) (by decide +kernel), List.mem_of_getElem? (i := 111) (by decide +kernel), List.mem_of_getElem? (i := 112) (by decide +kernel)⟩
theorem lw_p1 : lw_okq (⟨"TwoTierCache$Tier", "touchRecent", "(I)I"⟩, 9) := ⟨⟨by decide +kernel, by decide +kernel⟩, List.mem_of_getElem? (i := 16) (by decide +kernel), List.mem_of_getElem? (i := 120) (by decide +kernel), List.mem_of_getElem? (i := 121) (by decide +kernel)⟩
theorem lw_p2 : lw_okq (⟨"TwoTierCache$Tier", "touchClock", "(I)I"⟩, 9) := ⟨⟨by decide +kernel, by decide +kernel⟩, List.mem_of_getElem? (i := 16) (by decide +kernel), List.mem_of_getElem? (i := 143) (by decide +kernel), List.mem_of_getElem? (i := 144) (by decide +kernel)⟩
theorem lw_p3 : lw_okq (⟨"TwoTierCache$Tier", "spareMarked", "(LTwoTierCache$PageRow;)V"⟩, 9) := ⟨⟨by decide +kernel, by decide +kernel⟩, List.mem_of_getElem? (i := 16) (by decide +kernel), List.mem_of_getElem? (i := 150) (by decide +kernel), List.mem_of_getElem? (i := 151) (by decide +kernel)⟩
theorem lw_p4 : lw_okq (⟨"TwoTierCache$Tier", "touchQueues", "(I)I"⟩, 9) := ⟨⟨by decide +kernel, by decide +kernel⟩, List.mem_of_getElem? (i := 16) (by decide +kernel), List.mem_of_getElem? (i := 173) (by decide +kernel), List.mem_of_getElem? (i := 174) (by decide +kernel)⟩
theorem lw_p5 : lw_okq (⟨"TwoTierCache$Tier", "makeRoom", "(LTwoTierCache$PageRow;LTwoTierCache$PageRow;LTwoTierCache$PageRow;)I"⟩, 9) := ⟨⟨by decide +kernel, by decide +kernel⟩, List.mem_of_getElem? (i := 16) (by decide +kernel), List.mem_of_getElem? (i := 177) (by decide +kernel), List.mem_of_getElem? (i := 178) (by decide +kernel)⟩
theorem lw_p6 : lw_okq (⟨"TwoTierCache$Tier", "touchBalanced", "(I)I"⟩, 9) := ⟨⟨by decide +kernel, by decide +kernel⟩, List.mem_of_getElem? (i := 16) (by decide +kernel), List.mem_of_getElem? (i := 184) (by decide +kernel), List.mem_of_getElem? (i := 185) (by decide +kernel)⟩
theorem lw_p7 : lw_okq (⟨"TwoTierCache$Tier", "comeBack", "(ILTwoTierCache$PageRow;Z)I"⟩, 9) := ⟨⟨by decide +kernel, by decide +kernel⟩, List.mem_of_getElem? (i := 16) (by decide +kernel), List.mem_of_getElem? (i := 194) (by decide +kernel), List.mem_of_getElem? (i := 195) (by decide +kernel)⟩
theorem lw_p8 : lw_okq (⟨"TwoTierCache$Tier", "putOut", "(Z)I"⟩, 9) := ⟨⟨by decide +kernel, by decide +kernel⟩, List.mem_of_getElem? (i := 16) (by decide +kernel), List.mem_of_getElem? (i := 198) (by decide +kernel), List.mem_of_getElem? (i := 199) (by decide +kernel)⟩
theorem lw_p9 : lw_okq (⟨"TwoTierCache$Tier", "makeRoomForNew", "()I"⟩, 9) := ⟨⟨by decide +kernel, by decide +kernel⟩, List.mem_of_getElem? (i := 16) (by decide +kernel), List.mem_of_getElem? (i := 202) (by decide +kernel), List.mem_of_getElem? (i := 203) (by decide +kernel)⟩
theorem lw_p10 : lw_okq (⟨"TwoTierCache", "askLower", "(IZ)Z"⟩, 4) := ⟨⟨by decide +kernel, by decide +kernel⟩, List.mem_of_getElem? (i := 8) (by decide +kernel), List.mem_of_getElem? (i := 206) (by decide +kernel), List.mem_of_getElem? (i := 207) (by decide +kernel)⟩
theorem lw_p11 : lw_okq (⟨"TwoTierCache", "tierAt", "(I)LTwoTierCache$Tier;"⟩, 4) := ⟨⟨by decide +kernel, by decide +kernel⟩, List.mem_of_getElem? (i := 8) (by decide +kernel), List.mem_of_getElem? (i := 235) (by decide +kernel), List.mem_of_getElem? (i := 236) (by decide +kernel)⟩
theorem lw_p12 : lw_okq (⟨"TwoTierCacheModel", "touch", "(II)Z"⟩, 11) := ⟨⟨by decide +kernel, by decide +kernel⟩, List.mem_of_getElem? (i := 281) (by decide +kernel), List.mem_of_getElem? (i := 333) (by decide +kernel), List.mem_of_getElem? (i := 334) (by decide +kernel)⟩
theorem lw_p13 : lw_okq (⟨"TwoTierCacheModel", "recent", "(II)Z"⟩, 11) := ⟨⟨by decide +kernel, by decide +kernel⟩, List.mem_of_getElem? (i := 281) (by decide +kernel), List.mem_of_getElem? (i := 337) (by decide +kernel), List.mem_of_getElem? (i := 338) (by decide +kernel)⟩
theorem lw_p14 : lw_okq (⟨"TwoTierCacheModel", "isIn", "(II)Z"⟩, 11) := ⟨⟨by decide +kernel, by decide +kernel⟩, List.mem_of_getElem? (i := 281) (by decide +kernel), List.mem_of_getElem? (i := 341) (by decide +kernel), List.mem_of_getElem? (i := 342) (by decide +kernel)⟩
theorem lw_p15 : lw_okq (⟨"TwoTierCacheModel", "placeIn", "(II)I"⟩, 11) := ⟨⟨by decide +kernel, by decide +kernel⟩, List.mem_of_getElem? (i := 281) (by decide +kernel), List.mem_of_getElem? (i := 345) (by decide +kernel), List.mem_of_getElem? (i := 346) (by decide +kernel)⟩
def lw_privs_1 : List (MethodName × Nat) := [(⟨"TwoTierCache$PageRow", "placeOf", "(I)I"⟩, 2), (⟨"TwoTierCache$Tier", "touchRecent", "(I)I"⟩, 9), (⟨"TwoTierCache$Tier", "touchClock", "(I)I"⟩, 9), (⟨"TwoTierCache$Tier", "spareMarked", "(LTwoTierCache$PageRow;)V"⟩, 9), (⟨"TwoTierCache$Tier", "touchQueues", "(I)I"⟩, 9), (⟨"TwoTierCache$Tier", "makeRoom", "(LTwoTierCache$PageRow;LTwoTierCache$PageRow;LTwoTierCache$PageRow;)I"⟩, 9), (⟨"TwoTierCache$Tier", "touchBalanced", "(I)I"⟩, 9), (⟨"TwoTierCache$Tier", "comeBack", "(ILTwoTierCache$PageRow;Z)I"⟩, 9), (⟨"TwoTierCache$Tier", "putOut", "(Z)I"⟩, 9), (⟨"TwoTierCache$Tier", "makeRoomForNew", "()I"⟩, 9), (⟨"TwoTierCache", "askLower", "(IZ)Z"⟩, 4), (⟨"TwoTierCache", "tierAt", "(I)LTwoTierCache$Tier;"⟩, 4), (⟨"TwoTierCacheModel", "touch", "(II)Z"⟩, 11), (⟨"TwoTierCacheModel", "recent", "(II)Z"⟩, 11), (⟨"TwoTierCacheModel", "isIn", "(II)Z"⟩, 11), (⟨"TwoTierCacheModel", "placeIn", "(II)I"⟩, 11)]
theorem lw_r1 : ∀ q ∈ lw_privs_1, lw_okq q := List.forall_mem_cons.mpr ⟨lw_p0, List.forall_mem_cons.mpr ⟨lw_p1, List.forall_mem_cons.mpr ⟨lw_p2, List.forall_mem_cons.mpr ⟨lw_p3, List.forall_mem_cons.mpr ⟨lw_p4, List.forall_mem_cons.mpr ⟨lw_p5, List.forall_mem_cons.mpr ⟨lw_p6, List.forall_mem_cons.mpr ⟨lw_p7, List.forall_mem_cons.mpr ⟨lw_p8, List.forall_mem_cons.mpr ⟨lw_p9, List.forall_mem_cons.mpr ⟨lw_p10, List.forall_mem_cons.mpr ⟨lw_p11, List.forall_mem_cons.mpr ⟨lw_p12, List.forall_mem_cons.mpr ⟨lw_p13, List.forall_mem_cons.mpr ⟨lw_p14, List.forall_mem_cons.mpr ⟨lw_p15, fun _ h => absurd h List.not_mem_nil⟩⟩⟩⟩⟩⟩⟩⟩⟩⟩⟩⟩⟩⟩⟩⟩
theorem lw_p16 : lw_okq (⟨"TwoTierCacheModel", "move", "(III)V"⟩, 11) := ⟨⟨by decide +kernel, by decide +kernel⟩, List.mem_of_getElem? (i := 281) (by decide +kernel), List.mem_of_getElem? (i := 349) (by decide +kernel), List.mem_of_getElem? (i := 350) (by decide +kernel)⟩
theorem lw_p17 : lw_okq (⟨"TwoTierCacheModel", "takeOut", "(II)V"⟩, 11) := ⟨⟨by decide +kernel, by decide +kernel⟩, List.mem_of_getElem? (i := 281) (by decide +kernel), List.mem_of_getElem? (i := 353) (by decide +kernel), List.mem_of_getElem? (i := 354) (by decide +kernel)⟩
theorem lw_p18 : lw_okq (⟨"TwoTierCacheModel", "toHead", "(II)V"⟩, 11) := ⟨⟨by decide +kernel, by decide +kernel⟩, List.mem_of_getElem? (i := 281) (by decide +kernel), List.mem_of_getElem? (i := 357) (by decide +kernel), List.mem_of_getElem? (i := 358) (by decide +kernel)⟩
theorem lw_p19 : lw_okq (⟨"TwoTierCacheModel", "cutTail", "(I)I"⟩, 11) := ⟨⟨by decide +kernel, by decide +kernel⟩, List.mem_of_getElem? (i := 281) (by decide +kernel), List.mem_of_getElem? (i := 361) (by decide +kernel), List.mem_of_getElem? (i := 362) (by decide +kernel)⟩
theorem lw_p20 : lw_okq (⟨"TwoTierCacheModel", "clock", "(II)Z"⟩, 11) := ⟨⟨by decide +kernel, by decide +kernel⟩, List.mem_of_getElem? (i := 281) (by decide +kernel), List.mem_of_getElem? (i := 365) (by decide +kernel), List.mem_of_getElem? (i := 366) (by decide +kernel)⟩
theorem lw_p21 : lw_okq (⟨"TwoTierCacheModel", "toTail", "(II)V"⟩, 11) := ⟨⟨by decide +kernel, by decide +kernel⟩, List.mem_of_getElem? (i := 281) (by decide +kernel), List.mem_of_getElem? (i := 369) (by decide +kernel), List.mem_of_getElem? (i := 370) (by decide +kernel)⟩
theorem lw_p22 : lw_okq (⟨"TwoTierCacheModel", "queues", "(II)Z"⟩, 11) := ⟨⟨by decide +kernel, by decide +kernel⟩, List.mem_of_getElem? (i := 281) (by decide +kernel), List.mem_of_getElem? (i := 373) (by decide +kernel), List.mem_of_getElem? (i := 374) (by decide +kernel)⟩
theorem lw_p23 : lw_okq (⟨"TwoTierCacheModel", "makeRoom", "(I)V"⟩, 11) := ⟨⟨by decide +kernel, by decide +kernel⟩, List.mem_of_getElem? (i := 281) (by decide +kernel), List.mem_of_getElem? (i := 377) (by decide +kernel), List.mem_of_getElem? (i := 378) (by decide +kernel)⟩
theorem lw_p24 : lw_okq (⟨"TwoTierCacheModel", "balanced", "(II)Z"⟩, 11) := ⟨⟨by decide +kernel, by decide +kernel⟩, List.mem_of_getElem? (i := 281) (by decide +kernel), List.mem_of_getElem? (i := 381) (by decide +kernel), List.mem_of_getElem? (i := 382) (by decide +kernel)⟩
theorem lw_p25 : lw_okq (⟨"TwoTierCacheModel", "back", "(IIZ)V"⟩, 11) := ⟨⟨by decide +kernel, by decide +kernel⟩, List.mem_of_getElem? (i := 281) (by decide +kernel), List.mem_of_getElem? (i := 385) (by decide +kernel), List.mem_of_getElem? (i := 386) (by decide +kernel)⟩
theorem lw_p26 : lw_okq (⟨"TwoTierCacheModel", "putOut", "(IZ)V"⟩, 11) := ⟨⟨by decide +kernel, by decide +kernel⟩, List.mem_of_getElem? (i := 281) (by decide +kernel), List.mem_of_getElem? (i := 392) (by decide +kernel), List.mem_of_getElem? (i := 393) (by decide +kernel)⟩
theorem lw_p27 : lw_okq (⟨"TwoTierCacheModel", "askLower", "(IZ)Z"⟩, 11) := ⟨⟨by decide +kernel, by decide +kernel⟩, List.mem_of_getElem? (i := 281) (by decide +kernel), List.mem_of_getElem? (i := 396) (by decide +kernel), List.mem_of_getElem? (i := 397) (by decide +kernel)⟩
theorem lw_p28 : lw_okq (⟨"TwoTierCacheModel", "dries", "(II)Z"⟩, 11) := ⟨⟨by decide +kernel, by decide +kernel⟩, List.mem_of_getElem? (i := 281) (by decide +kernel), List.mem_of_getElem? (i := 400) (by decide +kernel), List.mem_of_getElem? (i := 401) (by decide +kernel)⟩
def lw_privs_2 : List (MethodName × Nat) := [(⟨"TwoTierCacheModel", "move", "(III)V"⟩, 11), (⟨"TwoTierCacheModel", "takeOut", "(II)V"⟩, 11), (⟨"TwoTierCacheModel", "toHead", "(II)V"⟩, 11), (⟨"TwoTierCacheModel", "cutTail", "(I)I"⟩, 11), (⟨"TwoTierCacheModel", "clock", "(II)Z"⟩, 11), (⟨"TwoTierCacheModel", "toTail", "(II)V"⟩, 11), (⟨"TwoTierCacheModel", "queues", "(II)Z"⟩, 11), (⟨"TwoTierCacheModel", "makeRoom", "(I)V"⟩, 11), (⟨"TwoTierCacheModel", "balanced", "(II)Z"⟩, 11), (⟨"TwoTierCacheModel", "back", "(IIZ)V"⟩, 11), (⟨"TwoTierCacheModel", "putOut", "(IZ)V"⟩, 11), (⟨"TwoTierCacheModel", "askLower", "(IZ)Z"⟩, 11), (⟨"TwoTierCacheModel", "dries", "(II)Z"⟩, 11)]
theorem lw_r2 : ∀ q ∈ lw_privs_2, lw_okq q := List.forall_mem_cons.mpr ⟨lw_p16, List.forall_mem_cons.mpr ⟨lw_p17, List.forall_mem_cons.mpr ⟨lw_p18, List.forall_mem_cons.mpr ⟨lw_p19, List.forall_mem_cons.mpr ⟨lw_p20, List.forall_mem_cons.mpr ⟨lw_p21, List.forall_mem_cons.mpr ⟨lw_p22, List.forall_mem_cons.mpr ⟨lw_p23, List.forall_mem_cons.mpr ⟨lw_p24, List.forall_mem_cons.mpr ⟨lw_p25, List.forall_mem_cons.mpr ⟨lw_p26, List.forall_mem_cons.mpr ⟨lw_p27, List.forall_mem_cons.mpr ⟨lw_p28, fun _ h => absurd h List.not_mem_nil⟩⟩⟩⟩⟩⟩⟩⟩⟩⟩⟩⟩⟩
def lw_privs : List (MethodName × Nat) := lw_privs_1 ++ (lw_privs_2)
def lw_tbl : List Cond := k2_sels lw_privs ++ tables_1
theorem lw_privs_ok : ∀ q ∈ lw_privs, lw_okq q := by
  show ∀ q ∈ lw_privs_1 ++ (lw_privs_2), lw_okq q
  exact List.forall_mem_append.mpr ⟨lw_r1, lw_r2⟩
/-! ===== BEGIN words of one list among another's, by their places ===== -/
theorem goodIn_r {big : List Cond} (ws : List Cond) (ps : List Nat) (hp : ws = ps.filterMap (fun i => big[i]?)) (h : ws.all goodWord = true) : GoodIn big ws := by
  intro w hw
  have h1 := List.all_eq_true.mp h w hw
  rw [hp] at hw
  obtain ⟨i, -, hi⟩ := List.mem_filterMap.mp hw
  have hm : w ∈ big := by first | exact List.mem_of_getElem? hi | exact List.getElem?_mem hi
  exact ⟨hm, good_of_word h1⟩
theorem goodIn_app {big a b : List Cond} (ha : GoodIn big a) (hb : GoodIn big b) : GoodIn big (a ++ b) := fun w h => (List.mem_append.mp h).elim (ha w) (hb w)
theorem goodIn_ca {big a b : List Cond} {c : Cond} (ha : GoodIn big (c :: a)) (hb : GoodIn big b) : GoodIn big (c :: (a ++ b)) := fun w h => (List.mem_cons.mp h).elim (fun e => ha w (List.mem_cons.mpr (Or.inl e))) (fun h => (List.mem_append.mp h).elim (fun h => ha w (List.mem_cons.mpr (Or.inr h))) (hb w))
theorem goodIn_sub {big ws : List Cond} (hm : ∀ w ∈ ws, w ∈ big) (h : ws.all goodWord = true) : GoodIn big ws := fun w hw => ⟨hm w hw, good_of_word (List.all_eq_true.mp h w hw)⟩
/-! ===== END ===== -/

/-! ===== BEGIN printed: names, fields, word lists, decode rows ===== -/
def RX0 : String := "TwoTierCache$PageRow"
def TX0 : u_T := fun k => match k with
  | 0 => ("TwoTierCache$PageRow", "pages", "[I", true)
  | _ => ("TwoTierCache$PageRow", "size", "I", false)
def tyX0 : Nat → FieldType := fun k => match k with
  | 0 => .array .int
  | _ => .int
abbrev wsX00 : List Cond := u_ws RX0 TX0 2
theorem nmX0 : ∀ a, a < 2 → ∀ b, b < 2 → a ≠ b → (TX0 a).2.1 ≠ (TX0 b).2.1 := by decide +kernel
theorem tyX0_ok : ∀ k, k < 2 → parseFieldDescriptor (TX0 k).2.2.1 = some (tyX0 k) := by decide +kernel
abbrev cX0_init : ByteArray := prog_2_method_1_code
def yX0_init : MethodName := ⟨RX0, "<init>", "()V"⟩
abbrev cX0_clear : ByteArray := prog_2_method_2_code
def yX0_clear : MethodName := ⟨RX0, "clear", "()V"⟩
abbrev cX0_size : ByteArray := prog_2_method_3_code
def yX0_size : MethodName := ⟨RX0, "size", "()I"⟩
abbrev cX0_at : ByteArray := prog_2_method_4_code
def yX0_at : MethodName := ⟨RX0, "at", "(I)I"⟩
abbrev cX0_has : ByteArray := prog_2_method_5_code
def yX0_has : MethodName := ⟨RX0, "has", "(I)Z"⟩
abbrev cX0_addHead : ByteArray := prog_2_method_6_code
def yX0_addHead : MethodName := ⟨RX0, "addHead", "(I)V"⟩
abbrev cX0_addTail : ByteArray := prog_2_method_7_code
def yX0_addTail : MethodName := ⟨RX0, "addTail", "(I)V"⟩
abbrev cX0_takeHead : ByteArray := prog_2_method_8_code
def yX0_takeHead : MethodName := ⟨RX0, "takeHead", "()I"⟩
abbrev cX0_takeTail : ByteArray := prog_2_method_9_code
def yX0_takeTail : MethodName := ⟨RX0, "takeTail", "()I"⟩
abbrev cX0_remove : ByteArray := prog_2_method_10_code
def yX0_remove : MethodName := ⟨RX0, "remove", "(I)Z"⟩
abbrev cX0_placeOf : ByteArray := prog_2_method_11_code
def yX0_placeOf : MethodName := ⟨RX0, "placeOf", "(I)I"⟩
def RX1 : String := "TwoTierCache$Tier"
def TX1 : u_T := fun k => match k with
  | 0 => ("TwoTierCache$Tier", "rows", "[LTwoTierCache$PageRow;", true)
  | 1 => ("TwoTierCache$Tier", "policy", "I", false)
  | 2 => ("TwoTierCache$Tier", "capacity", "I", false)
  | 3 => ("TwoTierCache$Tier", "goal", "I", false)
  | 4 => ("TwoTierCache$Tier", "dirtyPages", "J", false)
  | 5 => ("TwoTierCache$Tier", "markedPages", "J", false)
  | 6 => ("TwoTierCache$Tier", "hits", "I", false)
  | 7 => ("TwoTierCache$Tier", "misses", "I", false)
  | _ => ("TwoTierCache$Tier", "dirtyVictims", "I", false)
def tyX1 : Nat → FieldType := fun k => match k with
  | 0 => .array (.object "TwoTierCache$PageRow")
  | 1 => .int
  | 2 => .int
  | 3 => .int
  | 4 => .long
  | 5 => .long
  | 6 => .int
  | 7 => .int
  | _ => .int
abbrev wsX10 : List Cond := u_ws RX1 TX1 9
theorem nmX1 : ∀ a, a < 9 → ∀ b, b < 9 → a ≠ b → (TX1 a).2.1 ≠ (TX1 b).2.1 := by decide +kernel
theorem tyX1_ok : ∀ k, k < 9 → parseFieldDescriptor (TX1 k).2.2.1 = some (tyX1 k) := by decide +kernel
abbrev cX1_init : ByteArray := prog_3_method_1_code
def yX1_init : MethodName := ⟨RX1, "<init>", "(II)V"⟩
abbrev cX1_restart : ByteArray := prog_3_method_2_code
def yX1_restart : MethodName := ⟨RX1, "restart", "(II)V"⟩
abbrev cX1_holds : ByteArray := prog_3_method_3_code
def yX1_holds : MethodName := ⟨RX1, "holds", "(I)Z"⟩
abbrev cX1_isDirty : ByteArray := prog_3_method_4_code
def yX1_isDirty : MethodName := ⟨RX1, "isDirty", "(I)Z"⟩
abbrev cX1_isMarked : ByteArray := prog_3_method_5_code
def yX1_isMarked : MethodName := ⟨RX1, "isMarked", "(I)Z"⟩
abbrev cX1_pageAt : ByteArray := prog_3_method_6_code
def yX1_pageAt : MethodName := ⟨RX1, "pageAt", "(II)I"⟩
abbrev cX1_currentGoal : ByteArray := prog_3_method_7_code
def yX1_currentGoal : MethodName := ⟨RX1, "currentGoal", "()I"⟩
abbrev cX1_tally : ByteArray := prog_3_method_8_code
def yX1_tally : MethodName := ⟨RX1, "tally", "(I)I"⟩
abbrev cX1_soil : ByteArray := prog_3_method_9_code
def yX1_soil : MethodName := ⟨RX1, "soil", "(I)V"⟩
abbrev cX1_clean : ByteArray := prog_3_method_10_code
def yX1_clean : MethodName := ⟨RX1, "clean", "(I)Z"⟩
abbrev cX1_cleanVictim : ByteArray := prog_3_method_11_code
def yX1_cleanVictim : MethodName := ⟨RX1, "cleanVictim", "(I)Z"⟩
abbrev cX1_touch : ByteArray := prog_3_method_12_code
def yX1_touch : MethodName := ⟨RX1, "touch", "(I)I"⟩
abbrev cX1_touchRecent : ByteArray := prog_3_method_13_code
def yX1_touchRecent : MethodName := ⟨RX1, "touchRecent", "(I)I"⟩
abbrev cX1_touchClock : ByteArray := prog_3_method_14_code
def yX1_touchClock : MethodName := ⟨RX1, "touchClock", "(I)I"⟩
abbrev cX1_spareMarked : ByteArray := prog_3_method_15_code
def yX1_spareMarked : MethodName := ⟨RX1, "spareMarked", "(LTwoTierCache$PageRow;)V"⟩
abbrev cX1_touchQueues : ByteArray := prog_3_method_16_code
def yX1_touchQueues : MethodName := ⟨RX1, "touchQueues", "(I)I"⟩
abbrev cX1_makeRoom : ByteArray := prog_3_method_17_code
def yX1_makeRoom : MethodName := ⟨RX1, "makeRoom", "(LTwoTierCache$PageRow;LTwoTierCache$PageRow;LTwoTierCache$PageRow;)I"⟩
abbrev cX1_touchBalanced : ByteArray := prog_3_method_18_code
def yX1_touchBalanced : MethodName := ⟨RX1, "touchBalanced", "(I)I"⟩
abbrev cX1_goalStep : ByteArray := prog_3_method_19_code
def yX1_goalStep : MethodName := ⟨RX1, "goalStep", "(LTwoTierCache$PageRow;LTwoTierCache$PageRow;)I"⟩
abbrev cX1_comeBack : ByteArray := prog_3_method_20_code
def yX1_comeBack : MethodName := ⟨RX1, "comeBack", "(ILTwoTierCache$PageRow;Z)I"⟩
abbrev cX1_makeRoomForNew : ByteArray := prog_3_method_21_code
def yX1_makeRoomForNew : MethodName := ⟨RX1, "makeRoomForNew", "()I"⟩
abbrev cX1_putOut : ByteArray := prog_3_method_22_code
def yX1_putOut : MethodName := ⟨RX1, "putOut", "(Z)I"⟩
abbrev cX1_bit : ByteArray := prog_3_method_23_code
def yX1_bit : MethodName := ⟨RX1, "bit", "(I)J"⟩
def RX2 : String := "TwoTierCache"
def TX2 : u_T := fun k => match k with
  | 0 => ("TwoTierCache", "upper", "LTwoTierCache$Tier;", true)
  | 1 => ("TwoTierCache", "lower", "LTwoTierCache$Tier;", true)
  | 2 => ("TwoTierCache", "pagesRead", "I", false)
  | _ => ("TwoTierCache", "pagesWritten", "I", false)
def tyX2 : Nat → FieldType := fun k => match k with
  | 0 => .object "TwoTierCache$Tier"
  | 1 => .object "TwoTierCache$Tier"
  | 2 => .int
  | _ => .int
abbrev wsX20 : List Cond := u_ws RX2 TX2 4
theorem nmX2 : ∀ a, a < 4 → ∀ b, b < 4 → a ≠ b → (TX2 a).2.1 ≠ (TX2 b).2.1 := by decide +kernel
theorem tyX2_ok : ∀ k, k < 4 → parseFieldDescriptor (TX2 k).2.2.1 = some (tyX2 k) := by decide +kernel
abbrev cX2_init : ByteArray := prog_1_method_1_code
def yX2_init : MethodName := ⟨RX2, "<init>", "()V"⟩
abbrev cX2_begin : ByteArray := prog_1_method_2_code
def yX2_begin : MethodName := ⟨RX2, "begin", "(IIII)Z"⟩
abbrev cX2_access : ByteArray := prog_1_method_3_code
def yX2_access : MethodName := ⟨RX2, "access", "(IZ)I"⟩
abbrev cX2_flush : ByteArray := prog_1_method_4_code
def yX2_flush : MethodName := ⟨RX2, "flush", "()I"⟩
abbrev cX2_resident : ByteArray := prog_1_method_5_code
def yX2_resident : MethodName := ⟨RX2, "resident", "(II)Z"⟩
abbrev cX2_dirty : ByteArray := prog_1_method_6_code
def yX2_dirty : MethodName := ⟨RX2, "dirty", "(II)Z"⟩
abbrev cX2_marked : ByteArray := prog_1_method_7_code
def yX2_marked : MethodName := ⟨RX2, "marked", "(II)Z"⟩
abbrev cX2_row : ByteArray := prog_1_method_8_code
def yX2_row : MethodName := ⟨RX2, "row", "(III)I"⟩
abbrev cX2_goal : ByteArray := prog_1_method_9_code
def yX2_goal : MethodName := ⟨RX2, "goal", "(I)I"⟩
abbrev cX2_count : ByteArray := prog_1_method_10_code
def yX2_count : MethodName := ⟨RX2, "count", "(II)I"⟩
abbrev cX2_reads : ByteArray := prog_1_method_11_code
def yX2_reads : MethodName := ⟨RX2, "reads", "()I"⟩
abbrev cX2_writes : ByteArray := prog_1_method_12_code
def yX2_writes : MethodName := ⟨RX2, "writes", "()I"⟩
abbrev cX2_askLower : ByteArray := prog_1_method_13_code
def yX2_askLower : MethodName := ⟨RX2, "askLower", "(IZ)Z"⟩
abbrev cX2_tierAt : ByteArray := prog_1_method_14_code
def yX2_tierAt : MethodName := ⟨RX2, "tierAt", "(I)LTwoTierCache$Tier;"⟩
abbrev cX2_isPage : ByteArray := prog_1_method_15_code
def yX2_isPage : MethodName := ⟨RX2, "isPage", "(I)Z"⟩
abbrev cX2_isPolicy : ByteArray := prog_1_method_16_code
def yX2_isPolicy : MethodName := ⟨RX2, "isPolicy", "(I)Z"⟩
abbrev cX2_isCapacity : ByteArray := prog_1_method_17_code
def yX2_isCapacity : MethodName := ⟨RX2, "isCapacity", "(I)Z"⟩
def RX3 : String := "TwoTierCacheModel"
def TX3 : u_T := fun k => match k with
  | 0 => ("TwoTierCacheModel", "policies", "[I", true)
  | 1 => ("TwoTierCacheModel", "capacities", "[I", true)
  | 2 => ("TwoTierCacheModel", "goals", "[I", true)
  | 3 => ("TwoTierCacheModel", "lengths", "[I", true)
  | 4 => ("TwoTierCacheModel", "pages", "[I", true)
  | 5 => ("TwoTierCacheModel", "marks", "[Z", true)
  | 6 => ("TwoTierCacheModel", "wet", "[Z", true)
  | 7 => ("TwoTierCacheModel", "counts", "[I", true)
  | 8 => ("TwoTierCacheModel", "reads", "I", false)
  | 9 => ("TwoTierCacheModel", "writes", "I", false)
  | _ => ("TwoTierCacheModel", "victim", "I", false)
def tyX3 : Nat → FieldType := fun k => match k with
  | 0 => .array .int
  | 1 => .array .int
  | 2 => .array .int
  | 3 => .array .int
  | 4 => .array .int
  | 5 => .array .boolean
  | 6 => .array .boolean
  | 7 => .array .int
  | 8 => .int
  | 9 => .int
  | _ => .int
abbrev wsX30 : List Cond := u_ws RX3 TX3 11
theorem nmX3 : ∀ a, a < 11 → ∀ b, b < 11 → a ≠ b → (TX3 a).2.1 ≠ (TX3 b).2.1 := by decide +kernel
theorem tyX3_ok : ∀ k, k < 11 → parseFieldDescriptor (TX3 k).2.2.1 = some (tyX3 k) := by decide +kernel
abbrev cX3_init : ByteArray := prog_5_method_1_code
def yX3_init : MethodName := ⟨RX3, "<init>", "()V"⟩
abbrev cX3_isTier : ByteArray := prog_5_method_2_code
def yX3_isTier : MethodName := ⟨RX3, "isTier", "(I)Z"⟩
abbrev cX3_isPage : ByteArray := prog_5_method_3_code
def yX3_isPage : MethodName := ⟨RX3, "isPage", "(I)Z"⟩
abbrev cX3_begin : ByteArray := prog_5_method_4_code
def yX3_begin : MethodName := ⟨RX3, "begin", "(IIII)Z"⟩
abbrev cX3_placeIn : ByteArray := prog_5_method_5_code
def yX3_placeIn : MethodName := ⟨RX3, "placeIn", "(II)I"⟩
abbrev cX3_isIn : ByteArray := prog_5_method_6_code
def yX3_isIn : MethodName := ⟨RX3, "isIn", "(II)Z"⟩
abbrev cX3_takeOut : ByteArray := prog_5_method_7_code
def yX3_takeOut : MethodName := ⟨RX3, "takeOut", "(II)V"⟩
abbrev cX3_toHead : ByteArray := prog_5_method_8_code
def yX3_toHead : MethodName := ⟨RX3, "toHead", "(II)V"⟩
abbrev cX3_toTail : ByteArray := prog_5_method_9_code
def yX3_toTail : MethodName := ⟨RX3, "toTail", "(II)V"⟩
abbrev cX3_cutTail : ByteArray := prog_5_method_10_code
def yX3_cutTail : MethodName := ⟨RX3, "cutTail", "(I)I"⟩
abbrev cX3_move : ByteArray := prog_5_method_11_code
def yX3_move : MethodName := ⟨RX3, "move", "(III)V"⟩
abbrev cX3_recent : ByteArray := prog_5_method_12_code
def yX3_recent : MethodName := ⟨RX3, "recent", "(II)Z"⟩
abbrev cX3_clock : ByteArray := prog_5_method_13_code
def yX3_clock : MethodName := ⟨RX3, "clock", "(II)Z"⟩
abbrev cX3_makeRoom : ByteArray := prog_5_method_14_code
def yX3_makeRoom : MethodName := ⟨RX3, "makeRoom", "(I)V"⟩
abbrev cX3_queues : ByteArray := prog_5_method_15_code
def yX3_queues : MethodName := ⟨RX3, "queues", "(II)Z"⟩
abbrev cX3_putOut : ByteArray := prog_5_method_16_code
def yX3_putOut : MethodName := ⟨RX3, "putOut", "(IZ)V"⟩
abbrev cX3_greater : ByteArray := prog_5_method_17_code
def yX3_greater : MethodName := ⟨RX3, "greater", "(II)I"⟩
abbrev cX3_back : ByteArray := prog_5_method_18_code
def yX3_back : MethodName := ⟨RX3, "back", "(IIZ)V"⟩
abbrev cX3_balanced : ByteArray := prog_5_method_19_code
def yX3_balanced : MethodName := ⟨RX3, "balanced", "(II)Z"⟩
abbrev cX3_touch : ByteArray := prog_5_method_20_code
def yX3_touch : MethodName := ⟨RX3, "touch", "(II)Z"⟩
abbrev cX3_dries : ByteArray := prog_5_method_21_code
def yX3_dries : MethodName := ⟨RX3, "dries", "(II)Z"⟩
abbrev cX3_askLower : ByteArray := prog_5_method_22_code
def yX3_askLower : MethodName := ⟨RX3, "askLower", "(IZ)Z"⟩
abbrev cX3_access : ByteArray := prog_5_method_23_code
def yX3_access : MethodName := ⟨RX3, "access", "(IZ)I"⟩
abbrev cX3_flush : ByteArray := prog_5_method_24_code
def yX3_flush : MethodName := ⟨RX3, "flush", "()I"⟩
abbrev cX3_resident : ByteArray := prog_5_method_25_code
def yX3_resident : MethodName := ⟨RX3, "resident", "(II)Z"⟩
abbrev cX3_dirty : ByteArray := prog_5_method_26_code
def yX3_dirty : MethodName := ⟨RX3, "dirty", "(II)Z"⟩
abbrev cX3_marked : ByteArray := prog_5_method_27_code
def yX3_marked : MethodName := ⟨RX3, "marked", "(II)Z"⟩
abbrev cX3_row : ByteArray := prog_5_method_28_code
def yX3_row : MethodName := ⟨RX3, "row", "(III)I"⟩
abbrev cX3_goal : ByteArray := prog_5_method_29_code
def yX3_goal : MethodName := ⟨RX3, "goal", "(I)I"⟩
abbrev cX3_count : ByteArray := prog_5_method_30_code
def yX3_count : MethodName := ⟨RX3, "count", "(II)I"⟩
abbrev cX3_reads : ByteArray := prog_5_method_31_code
def yX3_reads : MethodName := ⟨RX3, "reads", "()I"⟩
abbrev cX3_writes : ByteArray := prog_5_method_32_code
def yX3_writes : MethodName := ⟨RX3, "writes", "()I"⟩
def RJ9 : String := "java/lang/Math"
def TJ9 : u_T := fun k => match k with
  | _ => ("", "", "", false)
def tyJ9 : Nat → FieldType := fun k => match k with
  | _ => .int
abbrev wsJ90 : List Cond := u_ws RJ9 TJ9 0
theorem nmJ9 : ∀ a, a < 0 → ∀ b, b < 0 → a ≠ b → (TJ9 a).2.1 ≠ (TJ9 b).2.1 := by decide +kernel
theorem tyJ9_ok : ∀ k, k < 0 → parseFieldDescriptor (TJ9 k).2.2.1 = some (tyJ9 k) := by decide +kernel
abbrev cJ9_max_7cf53 : ByteArray := prog_6_method_65_code
def yJ9_max_7cf53 : MethodName := ⟨RJ9, "max", "(II)I"⟩
abbrev cJ9_min_7cf53 : ByteArray := prog_6_method_69_code
def yJ9_min_7cf53 : MethodName := ⟨RJ9, "min", "(II)I"⟩
def RJ10 : String := "java/lang/System"
def TJ10 : u_T := fun k => match k with
  | _ => ("", "", "", false)
def tyJ10 : Nat → FieldType := fun k => match k with
  | _ => .int
abbrev wsJ100 : List Cond := u_ws RJ10 TJ10 0
theorem nmJ10 : ∀ a, a < 0 → ∀ b, b < 0 → a ≠ b → (TJ10 a).2.1 ≠ (TJ10 b).2.1 := by decide +kernel
theorem tyJ10_ok : ∀ k, k < 0 → parseFieldDescriptor (TJ10 k).2.2.1 = some (tyJ10 k) := by decide +kernel
def RL : String := "TwoTierCacheLaw"
abbrev cL_law : ByteArray := code
def yL_law : MethodName := ⟨RL, "law", "([I)Z"⟩
def wsX0_init : List Cond := .code yX0_init cX0_init 1 none :: ([.methodLink RX0 3 objectInit, .instanceMethod objectInit, .code objectInit ⟨#[0xb1]⟩ 1 none, .arrayClass .int, .fieldLink RX0 11 "TwoTierCache$PageRow" "pages" "[I"] ++ wsX00)
def wsX0_clear : List Cond := .code yX0_clear cX0_clear 1 none :: ([.fieldLink RX0 15 "TwoTierCache$PageRow" "size" "I"] ++ wsX00)
def wsX0_size : List Cond := .code yX0_size cX0_size 1 (some .int) :: ([.fieldLink RX0 15 "TwoTierCache$PageRow" "size" "I"] ++ wsX00)
def wsX0_at : List Cond := .code yX0_at cX0_at 2 (some .int) :: ([.fieldLink RX0 15 "TwoTierCache$PageRow" "size" "I", .fieldLink RX0 11 "TwoTierCache$PageRow" "pages" "[I"] ++ wsX00)
def wsX0_placeOf : List Cond := .code yX0_placeOf cX0_placeOf 3 (some .int) :: ([.fieldLink RX0 15 "TwoTierCache$PageRow" "size" "I", .fieldLink RX0 11 "TwoTierCache$PageRow" "pages" "[I"] ++ wsX00)
def wsX0_has : List Cond := .code yX0_has cX0_has 2 (some .boolean) :: ([.methodLink RX0 19 yX0_placeOf, .instanceMethod yX0_placeOf, .selects RX0 yX0_placeOf yX0_placeOf, .initialized RX0, .code yX0_placeOf cX0_placeOf 3 (some .int), .fieldLink RX0 15 "TwoTierCache$PageRow" "size" "I", .fieldLink RX0 11 "TwoTierCache$PageRow" "pages" "[I"] ++ wsX00)
def wsX0_addHead : List Cond := .code yX0_addHead cX0_addHead 2 none :: ([.fieldLink RX0 15 "TwoTierCache$PageRow" "size" "I", .fieldLink RX0 11 "TwoTierCache$PageRow" "pages" "[I", .methodLink RX0 23 arraycopyName, .native arraycopyName, .static arraycopyName, .initialized "java/lang/System"] ++ wsX00)
def wsX0_addTail : List Cond := .code yX0_addTail cX0_addTail 2 none :: ([.fieldLink RX0 15 "TwoTierCache$PageRow" "size" "I", .fieldLink RX0 11 "TwoTierCache$PageRow" "pages" "[I"] ++ wsX00)
def wsX0_remove : List Cond := .code yX0_remove cX0_remove 3 (some .boolean) :: ([.fieldLink RX0 15 "TwoTierCache$PageRow" "size" "I", .fieldLink RX0 11 "TwoTierCache$PageRow" "pages" "[I", .methodLink RX0 23 arraycopyName, .native arraycopyName, .static arraycopyName, .initialized "java/lang/System", .methodLink RX0 19 yX0_placeOf, .instanceMethod yX0_placeOf, .selects RX0 yX0_placeOf yX0_placeOf, .initialized RX0, .code yX0_placeOf cX0_placeOf 3 (some .int)] ++ wsX00)
def wsX0_takeHead : List Cond := .code yX0_takeHead cX0_takeHead 2 (some .int) :: ([.methodLink RX0 29 yX0_at, .instanceMethod yX0_at, .selects RX0 yX0_at yX0_at, .initialized RX0, .code yX0_at cX0_at 2 (some .int), .fieldLink RX0 15 "TwoTierCache$PageRow" "size" "I", .fieldLink RX0 11 "TwoTierCache$PageRow" "pages" "[I", .methodLink RX0 32 yX0_remove, .instanceMethod yX0_remove, .selects RX0 yX0_remove yX0_remove, .code yX0_remove cX0_remove 3 (some .boolean), .methodLink RX0 23 arraycopyName, .native arraycopyName, .static arraycopyName, .initialized "java/lang/System", .methodLink RX0 19 yX0_placeOf, .instanceMethod yX0_placeOf, .selects RX0 yX0_placeOf yX0_placeOf, .code yX0_placeOf cX0_placeOf 3 (some .int)] ++ wsX00)
def wsX0_takeTail : List Cond := .code yX0_takeTail cX0_takeTail 1 (some .int) :: ([.fieldLink RX0 15 "TwoTierCache$PageRow" "size" "I", .fieldLink RX0 11 "TwoTierCache$PageRow" "pages" "[I"] ++ wsX00)
def wsX1_init : List Cond := .code yX1_init cX1_init 4 none :: ([.methodLink RX1 3 objectInit, .instanceMethod objectInit, .code objectInit ⟨#[0xb1]⟩ 1 none, .classLink RX1 11 RX0, .fieldLink RX1 13 "TwoTierCache$Tier" "rows" "[LTwoTierCache$PageRow;", .instantiable RX0 2, .initialized RX0, .fieldLink RX1 18 "TwoTierCache$Tier" "policy" "I", .fieldLink RX1 22 "TwoTierCache$Tier" "capacity" "I", .instanceMethod yX0_init, .code yX0_init cX0_init 1 none, .methodLink RX0 3 objectInit, .arrayClass .int, .fieldLink RX0 11 "TwoTierCache$PageRow" "pages" "[I"] ++ wsX10 ++ wsX00)
def wsX1_restart : List Cond := .code yX1_restart cX1_restart 4 none :: ([.fieldLink RX1 13 "TwoTierCache$Tier" "rows" "[LTwoTierCache$PageRow;", .fieldLink RX1 18 "TwoTierCache$Tier" "policy" "I", .fieldLink RX1 22 "TwoTierCache$Tier" "capacity" "I", .fieldLink RX1 28 "TwoTierCache$Tier" "goal" "I", .fieldLink RX1 31 "TwoTierCache$Tier" "dirtyPages" "J", .fieldLink RX1 35 "TwoTierCache$Tier" "markedPages" "J", .fieldLink RX1 38 "TwoTierCache$Tier" "hits" "I", .fieldLink RX1 41 "TwoTierCache$Tier" "misses" "I", .fieldLink RX1 44 "TwoTierCache$Tier" "dirtyVictims" "I", .methodLink RX1 25 yX0_clear, .instanceMethod yX0_clear, .selects RX0 yX0_clear yX0_clear, .initialized RX0, .code yX0_clear cX0_clear 1 none, .fieldLink RX0 15 "TwoTierCache$PageRow" "size" "I"] ++ wsX10 ++ wsX00)
def wsX1_holds : List Cond := .code yX1_holds cX1_holds 3 (some .boolean) :: ([.fieldLink RX1 18 "TwoTierCache$Tier" "policy" "I", .fieldLink RX1 13 "TwoTierCache$Tier" "rows" "[LTwoTierCache$PageRow;", .methodLink RX1 47 yX0_has, .instanceMethod yX0_has, .selects RX0 yX0_has yX0_has, .initialized RX0, .code yX0_has cX0_has 2 (some .boolean), .methodLink RX0 19 yX0_placeOf, .instanceMethod yX0_placeOf, .selects RX0 yX0_placeOf yX0_placeOf, .code yX0_placeOf cX0_placeOf 3 (some .int), .fieldLink RX0 15 "TwoTierCache$PageRow" "size" "I", .fieldLink RX0 11 "TwoTierCache$PageRow" "pages" "[I"] ++ wsX10 ++ wsX00)
def wsX1_bit : List Cond := .code yX1_bit cX1_bit 1 (some .long) :: ([])
def wsX1_isDirty : List Cond := .code yX1_isDirty cX1_isDirty 2 (some .boolean) :: ([.fieldLink RX1 31 "TwoTierCache$Tier" "dirtyPages" "J", .methodLink RX1 51 yX1_bit, .static yX1_bit, .initialized RX1, .code yX1_bit cX1_bit 1 (some .long)] ++ wsX10)
def wsX1_isMarked : List Cond := .code yX1_isMarked cX1_isMarked 2 (some .boolean) :: ([.fieldLink RX1 35 "TwoTierCache$Tier" "markedPages" "J", .methodLink RX1 51 yX1_bit, .static yX1_bit, .initialized RX1, .code yX1_bit cX1_bit 1 (some .long)] ++ wsX10)
def wsX1_pageAt : List Cond := .code yX1_pageAt cX1_pageAt 3 (some .int) :: ([.fieldLink RX1 13 "TwoTierCache$Tier" "rows" "[LTwoTierCache$PageRow;", .methodLink RX1 55 yX0_at, .instanceMethod yX0_at, .selects RX0 yX0_at yX0_at, .initialized RX0, .code yX0_at cX0_at 2 (some .int), .fieldLink RX0 15 "TwoTierCache$PageRow" "size" "I", .fieldLink RX0 11 "TwoTierCache$PageRow" "pages" "[I"] ++ wsX10 ++ wsX00)
def wsX1_currentGoal : List Cond := .code yX1_currentGoal cX1_currentGoal 1 (some .int) :: ([.fieldLink RX1 18 "TwoTierCache$Tier" "policy" "I", .fieldLink RX1 28 "TwoTierCache$Tier" "goal" "I"] ++ wsX10)
def wsX1_tally : List Cond := .code yX1_tally cX1_tally 2 (some .int) :: ([.fieldLink RX1 38 "TwoTierCache$Tier" "hits" "I", .fieldLink RX1 41 "TwoTierCache$Tier" "misses" "I", .fieldLink RX1 44 "TwoTierCache$Tier" "dirtyVictims" "I"] ++ wsX10)
def wsX1_soil : List Cond := .code yX1_soil cX1_soil 2 none :: ([.fieldLink RX1 31 "TwoTierCache$Tier" "dirtyPages" "J", .methodLink RX1 51 yX1_bit, .static yX1_bit, .initialized RX1, .code yX1_bit cX1_bit 1 (some .long)] ++ wsX10)
def wsX1_clean : List Cond := .code yX1_clean cX1_clean 3 (some .boolean) :: ([.fieldLink RX1 31 "TwoTierCache$Tier" "dirtyPages" "J", .constantLong RX1 62 (-1), .methodLink RX1 59 yX1_isDirty, .instanceMethod yX1_isDirty, .selects RX1 yX1_isDirty yX1_isDirty, .initialized RX1, .code yX1_isDirty cX1_isDirty 2 (some .boolean), .methodLink RX1 51 yX1_bit, .static yX1_bit, .code yX1_bit cX1_bit 1 (some .long)] ++ wsX10)
def wsX1_cleanVictim : List Cond := .code yX1_cleanVictim cX1_cleanVictim 2 (some .boolean) :: ([.fieldLink RX1 44 "TwoTierCache$Tier" "dirtyVictims" "I", .methodLink RX1 64 yX1_clean, .instanceMethod yX1_clean, .selects RX1 yX1_clean yX1_clean, .initialized RX1, .code yX1_clean cX1_clean 3 (some .boolean), .fieldLink RX1 31 "TwoTierCache$Tier" "dirtyPages" "J", .constantLong RX1 62 (-1), .methodLink RX1 59 yX1_isDirty, .instanceMethod yX1_isDirty, .selects RX1 yX1_isDirty yX1_isDirty, .code yX1_isDirty cX1_isDirty 2 (some .boolean), .methodLink RX1 51 yX1_bit, .static yX1_bit, .code yX1_bit cX1_bit 1 (some .long)] ++ wsX10)
def wsX1_touchRecent_r1 : List Cond := [Cond.fieldLink RX1 13 "TwoTierCache$Tier" "rows" "[LTwoTierCache$PageRow;", Cond.fieldLink RX1 22 "TwoTierCache$Tier" "capacity" "I", Cond.methodLink RX1 82 yX0_remove, Cond.instanceMethod yX0_remove, Cond.selects RX0 yX0_remove yX0_remove, Cond.initialized RX0, Cond.code yX0_remove cX0_remove 3 (some .boolean), Cond.fieldLink RX0 15 "TwoTierCache$PageRow" "size" "I", Cond.fieldLink RX0 11 "TwoTierCache$PageRow" "pages" "[I", Cond.methodLink RX0 23 arraycopyName, Cond.native arraycopyName, Cond.static arraycopyName, Cond.initialized "java/lang/System", Cond.methodLink RX0 19 yX0_placeOf, Cond.instanceMethod yX0_placeOf, Cond.selects RX0 yX0_placeOf yX0_placeOf, Cond.code yX0_placeOf cX0_placeOf 3 (some .int), Cond.methodLink RX1 85 yX0_size, Cond.instanceMethod yX0_size, Cond.selects RX0 yX0_size yX0_size, Cond.code yX0_size cX0_size 1 (some .int), Cond.methodLink RX1 89 yX0_takeTail, Cond.instanceMethod yX0_takeTail, Cond.selects RX0 yX0_takeTail yX0_takeTail]
def wsX1_touchRecent_r2 : List Cond := [Cond.code yX0_takeTail cX0_takeTail 1 (some .int), Cond.methodLink RX1 92 yX0_addHead, Cond.instanceMethod yX0_addHead, Cond.selects RX0 yX0_addHead yX0_addHead, Cond.code yX0_addHead cX0_addHead 2 none]
def wsX1_touchRecent : List Cond := .code yX1_touchRecent cX1_touchRecent 4 (some .int) :: ((wsX1_touchRecent_r1 ++ wsX1_touchRecent_r2) ++ wsX10 ++ wsX00)
def wsX1_spareMarked_r1 : List Cond := [Cond.fieldLink RX1 35 "TwoTierCache$Tier" "markedPages" "J", Cond.constantLong RX1 62 (-1), Cond.methodLink RX1 85 yX0_size, Cond.instanceMethod yX0_size, Cond.selects RX0 yX0_size yX0_size, Cond.initialized RX0, Cond.code yX0_size cX0_size 1 (some .int), Cond.fieldLink RX0 15 "TwoTierCache$PageRow" "size" "I", Cond.methodLink RX1 55 yX0_at, Cond.instanceMethod yX0_at, Cond.selects RX0 yX0_at yX0_at, Cond.code yX0_at cX0_at 2 (some .int), Cond.fieldLink RX0 11 "TwoTierCache$PageRow" "pages" "[I", Cond.methodLink RX1 106 yX1_isMarked, Cond.instanceMethod yX1_isMarked, Cond.selects RX1 yX1_isMarked yX1_isMarked, Cond.initialized RX1, Cond.code yX1_isMarked cX1_isMarked 2 (some .boolean), Cond.methodLink RX1 51 yX1_bit, Cond.static yX1_bit, Cond.code yX1_bit cX1_bit 1 (some .long), Cond.methodLink RX1 100 yX0_takeHead, Cond.instanceMethod yX0_takeHead, Cond.selects RX0 yX0_takeHead yX0_takeHead]
def wsX1_spareMarked_r2 : List Cond := [Cond.code yX0_takeHead cX0_takeHead 2 (some .int), Cond.methodLink RX0 29 yX0_at, Cond.methodLink RX0 32 yX0_remove, Cond.instanceMethod yX0_remove, Cond.selects RX0 yX0_remove yX0_remove, Cond.code yX0_remove cX0_remove 3 (some .boolean), Cond.methodLink RX0 23 arraycopyName, Cond.native arraycopyName, Cond.static arraycopyName, Cond.initialized "java/lang/System", Cond.methodLink RX0 19 yX0_placeOf, Cond.instanceMethod yX0_placeOf, Cond.selects RX0 yX0_placeOf yX0_placeOf, Cond.code yX0_placeOf cX0_placeOf 3 (some .int), Cond.methodLink RX1 103 yX0_addTail, Cond.instanceMethod yX0_addTail, Cond.selects RX0 yX0_addTail yX0_addTail, Cond.code yX0_addTail cX0_addTail 2 none]
def wsX1_spareMarked : List Cond := .code yX1_spareMarked cX1_spareMarked 5 none :: ((wsX1_spareMarked_r1 ++ wsX1_spareMarked_r2) ++ wsX10 ++ wsX00)
def wsX1_touchClock_r1 : List Cond := [Cond.fieldLink RX1 13 "TwoTierCache$Tier" "rows" "[LTwoTierCache$PageRow;", Cond.fieldLink RX1 35 "TwoTierCache$Tier" "markedPages" "J", Cond.fieldLink RX1 22 "TwoTierCache$Tier" "capacity" "I", Cond.methodLink RX1 47 yX0_has, Cond.instanceMethod yX0_has, Cond.selects RX0 yX0_has yX0_has, Cond.initialized RX0, Cond.code yX0_has cX0_has 2 (some .boolean), Cond.methodLink RX0 19 yX0_placeOf, Cond.instanceMethod yX0_placeOf, Cond.selects RX0 yX0_placeOf yX0_placeOf, Cond.code yX0_placeOf cX0_placeOf 3 (some .int), Cond.fieldLink RX0 15 "TwoTierCache$PageRow" "size" "I", Cond.fieldLink RX0 11 "TwoTierCache$PageRow" "pages" "[I", Cond.methodLink RX1 51 yX1_bit, Cond.static yX1_bit, Cond.initialized RX1, Cond.code yX1_bit cX1_bit 1 (some .long), Cond.methodLink RX1 85 yX0_size, Cond.instanceMethod yX0_size, Cond.selects RX0 yX0_size yX0_size, Cond.code yX0_size cX0_size 1 (some .int), Cond.methodLink RX1 96 yX1_spareMarked, Cond.instanceMethod yX1_spareMarked]
def wsX1_touchClock_r2 : List Cond := [Cond.selects RX1 yX1_spareMarked yX1_spareMarked, Cond.code yX1_spareMarked cX1_spareMarked 5 none, Cond.constantLong RX1 62 (-1), Cond.methodLink RX1 55 yX0_at, Cond.instanceMethod yX0_at, Cond.selects RX0 yX0_at yX0_at, Cond.code yX0_at cX0_at 2 (some .int), Cond.methodLink RX1 106 yX1_isMarked, Cond.instanceMethod yX1_isMarked, Cond.selects RX1 yX1_isMarked yX1_isMarked, Cond.code yX1_isMarked cX1_isMarked 2 (some .boolean), Cond.methodLink RX1 100 yX0_takeHead, Cond.instanceMethod yX0_takeHead, Cond.selects RX0 yX0_takeHead yX0_takeHead, Cond.code yX0_takeHead cX0_takeHead 2 (some .int), Cond.methodLink RX0 29 yX0_at, Cond.methodLink RX0 32 yX0_remove, Cond.instanceMethod yX0_remove, Cond.selects RX0 yX0_remove yX0_remove, Cond.code yX0_remove cX0_remove 3 (some .boolean), Cond.methodLink RX0 23 arraycopyName, Cond.native arraycopyName, Cond.static arraycopyName, Cond.initialized "java/lang/System"]
def wsX1_touchClock_r3 : List Cond := [Cond.methodLink RX1 103 yX0_addTail, Cond.instanceMethod yX0_addTail, Cond.selects RX0 yX0_addTail yX0_addTail, Cond.code yX0_addTail cX0_addTail 2 none]
def wsX1_touchClock : List Cond := .code yX1_touchClock cX1_touchClock 4 (some .int) :: ((wsX1_touchClock_r1 ++ (wsX1_touchClock_r2 ++ wsX1_touchClock_r3)) ++ wsX10 ++ wsX00)
def wsX1_makeRoom : List Cond := .code yX1_makeRoom cX1_makeRoom 5 (some .int) :: ([.fieldLink RX1 22 "TwoTierCache$Tier" "capacity" "I", .methodLink RX1 113 Lib.Math.max.name, .static Lib.Math.max.name, .initialized "java/lang/Math", .code Lib.Math.max.name Lib.Math.max.code 2 (some .int), .methodLink RX1 85 yX0_size, .instanceMethod yX0_size, .selects RX0 yX0_size yX0_size, .initialized RX0, .code yX0_size cX0_size 1 (some .int), .fieldLink RX0 15 "TwoTierCache$PageRow" "size" "I", .methodLink RX1 89 yX0_takeTail, .instanceMethod yX0_takeTail, .selects RX0 yX0_takeTail yX0_takeTail, .code yX0_takeTail cX0_takeTail 1 (some .int), .fieldLink RX0 11 "TwoTierCache$PageRow" "pages" "[I", .methodLink RX1 92 yX0_addHead, .instanceMethod yX0_addHead, .selects RX0 yX0_addHead yX0_addHead, .code yX0_addHead cX0_addHead 2 none, .methodLink RX0 23 arraycopyName, .native arraycopyName, .static arraycopyName, .initialized "java/lang/System"] ++ wsX10 ++ wsX00)
def wsX1_touchQueues_r1 : List Cond := [Cond.fieldLink RX1 13 "TwoTierCache$Tier" "rows" "[LTwoTierCache$PageRow;", Cond.methodLink RX1 82 yX0_remove, Cond.instanceMethod yX0_remove, Cond.selects RX0 yX0_remove yX0_remove, Cond.initialized RX0, Cond.code yX0_remove cX0_remove 3 (some .boolean), Cond.fieldLink RX0 15 "TwoTierCache$PageRow" "size" "I", Cond.fieldLink RX0 11 "TwoTierCache$PageRow" "pages" "[I", Cond.methodLink RX0 23 arraycopyName, Cond.native arraycopyName, Cond.static arraycopyName, Cond.initialized "java/lang/System", Cond.methodLink RX0 19 yX0_placeOf, Cond.instanceMethod yX0_placeOf, Cond.selects RX0 yX0_placeOf yX0_placeOf, Cond.code yX0_placeOf cX0_placeOf 3 (some .int), Cond.methodLink RX1 92 yX0_addHead, Cond.instanceMethod yX0_addHead, Cond.selects RX0 yX0_addHead yX0_addHead, Cond.code yX0_addHead cX0_addHead 2 none, Cond.methodLink RX1 47 yX0_has, Cond.instanceMethod yX0_has, Cond.selects RX0 yX0_has yX0_has, Cond.code yX0_has cX0_has 2 (some .boolean)]
def wsX1_touchQueues_r2 : List Cond := [Cond.methodLink RX1 109 yX1_makeRoom, Cond.instanceMethod yX1_makeRoom, Cond.selects RX1 yX1_makeRoom yX1_makeRoom, Cond.initialized RX1, Cond.code yX1_makeRoom cX1_makeRoom 5 (some .int), Cond.fieldLink RX1 22 "TwoTierCache$Tier" "capacity" "I", Cond.methodLink RX1 113 Lib.Math.max.name, Cond.static Lib.Math.max.name, Cond.initialized "java/lang/Math", Cond.code Lib.Math.max.name Lib.Math.max.code 2 (some .int), Cond.methodLink RX1 85 yX0_size, Cond.instanceMethod yX0_size, Cond.selects RX0 yX0_size yX0_size, Cond.code yX0_size cX0_size 1 (some .int), Cond.methodLink RX1 89 yX0_takeTail, Cond.instanceMethod yX0_takeTail, Cond.selects RX0 yX0_takeTail yX0_takeTail, Cond.code yX0_takeTail cX0_takeTail 1 (some .int)]
def wsX1_touchQueues : List Cond := .code yX1_touchQueues cX1_touchQueues 7 (some .int) :: ((wsX1_touchQueues_r1 ++ wsX1_touchQueues_r2) ++ wsX10 ++ wsX00)
def wsX1_goalStep : List Cond := .code yX1_goalStep cX1_goalStep 2 (some .int) :: ([.methodLink RX1 113 Lib.Math.max.name, .static Lib.Math.max.name, .initialized "java/lang/Math", .code Lib.Math.max.name Lib.Math.max.code 2 (some .int), .methodLink RX1 85 yX0_size, .instanceMethod yX0_size, .selects RX0 yX0_size yX0_size, .initialized RX0, .code yX0_size cX0_size 1 (some .int), .fieldLink RX0 15 "TwoTierCache$PageRow" "size" "I"] ++ wsX00)
def wsX1_putOut : List Cond := .code yX1_putOut cX1_putOut 6 (some .int) :: ([.fieldLink RX1 13 "TwoTierCache$Tier" "rows" "[LTwoTierCache$PageRow;", .fieldLink RX1 28 "TwoTierCache$Tier" "goal" "I", .methodLink RX1 85 yX0_size, .instanceMethod yX0_size, .selects RX0 yX0_size yX0_size, .initialized RX0, .code yX0_size cX0_size 1 (some .int), .fieldLink RX0 15 "TwoTierCache$PageRow" "size" "I", .methodLink RX1 89 yX0_takeTail, .instanceMethod yX0_takeTail, .selects RX0 yX0_takeTail yX0_takeTail, .code yX0_takeTail cX0_takeTail 1 (some .int), .fieldLink RX0 11 "TwoTierCache$PageRow" "pages" "[I", .methodLink RX1 92 yX0_addHead, .instanceMethod yX0_addHead, .selects RX0 yX0_addHead yX0_addHead, .code yX0_addHead cX0_addHead 2 none, .methodLink RX0 23 arraycopyName, .native arraycopyName, .static arraycopyName, .initialized "java/lang/System"] ++ wsX10 ++ wsX00)
def wsX1_comeBack_r1 : List Cond := [Cond.fieldLink RX1 13 "TwoTierCache$Tier" "rows" "[LTwoTierCache$PageRow;", Cond.methodLink RX1 133 yX1_putOut, Cond.instanceMethod yX1_putOut, Cond.selects RX1 yX1_putOut yX1_putOut, Cond.initialized RX1, Cond.code yX1_putOut cX1_putOut 6 (some .int), Cond.fieldLink RX1 28 "TwoTierCache$Tier" "goal" "I", Cond.methodLink RX1 85 yX0_size, Cond.instanceMethod yX0_size, Cond.selects RX0 yX0_size yX0_size, Cond.initialized RX0, Cond.code yX0_size cX0_size 1 (some .int), Cond.fieldLink RX0 15 "TwoTierCache$PageRow" "size" "I", Cond.methodLink RX1 89 yX0_takeTail, Cond.instanceMethod yX0_takeTail, Cond.selects RX0 yX0_takeTail yX0_takeTail, Cond.code yX0_takeTail cX0_takeTail 1 (some .int), Cond.fieldLink RX0 11 "TwoTierCache$PageRow" "pages" "[I", Cond.methodLink RX1 92 yX0_addHead, Cond.instanceMethod yX0_addHead, Cond.selects RX0 yX0_addHead yX0_addHead, Cond.code yX0_addHead cX0_addHead 2 none, Cond.methodLink RX0 23 arraycopyName, Cond.native arraycopyName]
def wsX1_comeBack_r2 : List Cond := [Cond.static arraycopyName, Cond.initialized "java/lang/System", Cond.methodLink RX1 82 yX0_remove, Cond.instanceMethod yX0_remove, Cond.selects RX0 yX0_remove yX0_remove, Cond.code yX0_remove cX0_remove 3 (some .boolean), Cond.methodLink RX0 19 yX0_placeOf, Cond.instanceMethod yX0_placeOf, Cond.selects RX0 yX0_placeOf yX0_placeOf, Cond.code yX0_placeOf cX0_placeOf 3 (some .int)]
def wsX1_comeBack : List Cond := .code yX1_comeBack cX1_comeBack 5 (some .int) :: ((wsX1_comeBack_r1 ++ wsX1_comeBack_r2) ++ wsX10 ++ wsX00)
def wsX1_makeRoomForNew_r1 : List Cond := [Cond.fieldLink RX1 13 "TwoTierCache$Tier" "rows" "[LTwoTierCache$PageRow;", Cond.fieldLink RX1 22 "TwoTierCache$Tier" "capacity" "I", Cond.methodLink RX1 85 yX0_size, Cond.instanceMethod yX0_size, Cond.selects RX0 yX0_size yX0_size, Cond.initialized RX0, Cond.code yX0_size cX0_size 1 (some .int), Cond.fieldLink RX0 15 "TwoTierCache$PageRow" "size" "I", Cond.methodLink RX1 89 yX0_takeTail, Cond.instanceMethod yX0_takeTail, Cond.selects RX0 yX0_takeTail yX0_takeTail, Cond.code yX0_takeTail cX0_takeTail 1 (some .int), Cond.fieldLink RX0 11 "TwoTierCache$PageRow" "pages" "[I", Cond.methodLink RX1 133 yX1_putOut, Cond.instanceMethod yX1_putOut, Cond.selects RX1 yX1_putOut yX1_putOut, Cond.initialized RX1, Cond.code yX1_putOut cX1_putOut 6 (some .int), Cond.fieldLink RX1 28 "TwoTierCache$Tier" "goal" "I", Cond.methodLink RX1 92 yX0_addHead, Cond.instanceMethod yX0_addHead, Cond.selects RX0 yX0_addHead yX0_addHead, Cond.code yX0_addHead cX0_addHead 2 none, Cond.methodLink RX0 23 arraycopyName]
def wsX1_makeRoomForNew_r2 : List Cond := [Cond.native arraycopyName, Cond.static arraycopyName, Cond.initialized "java/lang/System"]
def wsX1_makeRoomForNew : List Cond := .code yX1_makeRoomForNew cX1_makeRoomForNew 3 (some .int) :: ((wsX1_makeRoomForNew_r1 ++ wsX1_makeRoomForNew_r2) ++ wsX10 ++ wsX00)
def wsX1_touchBalanced_r1 : List Cond := [Cond.fieldLink RX1 13 "TwoTierCache$Tier" "rows" "[LTwoTierCache$PageRow;", Cond.fieldLink RX1 22 "TwoTierCache$Tier" "capacity" "I", Cond.fieldLink RX1 28 "TwoTierCache$Tier" "goal" "I", Cond.methodLink RX1 123 Lib.Math.min.name, Cond.static Lib.Math.min.name, Cond.initialized "java/lang/Math", Cond.code Lib.Math.min.name Lib.Math.min.code 2 (some .int), Cond.methodLink RX1 113 Lib.Math.max.name, Cond.static Lib.Math.max.name, Cond.code Lib.Math.max.name Lib.Math.max.code 2 (some .int), Cond.methodLink RX1 82 yX0_remove, Cond.instanceMethod yX0_remove, Cond.selects RX0 yX0_remove yX0_remove, Cond.initialized RX0, Cond.code yX0_remove cX0_remove 3 (some .boolean), Cond.fieldLink RX0 15 "TwoTierCache$PageRow" "size" "I", Cond.fieldLink RX0 11 "TwoTierCache$PageRow" "pages" "[I", Cond.methodLink RX0 23 arraycopyName, Cond.native arraycopyName, Cond.static arraycopyName, Cond.initialized "java/lang/System", Cond.methodLink RX0 19 yX0_placeOf, Cond.instanceMethod yX0_placeOf, Cond.selects RX0 yX0_placeOf yX0_placeOf]
def wsX1_touchBalanced_r2 : List Cond := [Cond.code yX0_placeOf cX0_placeOf 3 (some .int), Cond.methodLink RX1 92 yX0_addHead, Cond.instanceMethod yX0_addHead, Cond.selects RX0 yX0_addHead yX0_addHead, Cond.code yX0_addHead cX0_addHead 2 none, Cond.methodLink RX1 47 yX0_has, Cond.instanceMethod yX0_has, Cond.selects RX0 yX0_has yX0_has, Cond.code yX0_has cX0_has 2 (some .boolean), Cond.methodLink RX1 119 yX1_goalStep, Cond.static yX1_goalStep, Cond.initialized RX1, Cond.code yX1_goalStep cX1_goalStep 2 (some .int), Cond.methodLink RX1 85 yX0_size, Cond.instanceMethod yX0_size, Cond.selects RX0 yX0_size yX0_size, Cond.code yX0_size cX0_size 1 (some .int), Cond.methodLink RX1 126 yX1_comeBack, Cond.instanceMethod yX1_comeBack, Cond.selects RX1 yX1_comeBack yX1_comeBack, Cond.code yX1_comeBack cX1_comeBack 5 (some .int), Cond.methodLink RX1 133 yX1_putOut, Cond.instanceMethod yX1_putOut, Cond.selects RX1 yX1_putOut yX1_putOut]
def wsX1_touchBalanced_r3 : List Cond := [Cond.code yX1_putOut cX1_putOut 6 (some .int), Cond.methodLink RX1 89 yX0_takeTail, Cond.instanceMethod yX0_takeTail, Cond.selects RX0 yX0_takeTail yX0_takeTail, Cond.code yX0_takeTail cX0_takeTail 1 (some .int), Cond.methodLink RX1 130 yX1_makeRoomForNew, Cond.instanceMethod yX1_makeRoomForNew, Cond.selects RX1 yX1_makeRoomForNew yX1_makeRoomForNew, Cond.code yX1_makeRoomForNew cX1_makeRoomForNew 3 (some .int)]
def wsX1_touchBalanced : List Cond := .code yX1_touchBalanced cX1_touchBalanced 3 (some .int) :: ((wsX1_touchBalanced_r1 ++ (wsX1_touchBalanced_r2 ++ wsX1_touchBalanced_r3)) ++ wsX10 ++ wsX00)
def wsX1_touch_r1 : List Cond := [Cond.fieldLink RX1 38 "TwoTierCache$Tier" "hits" "I", Cond.fieldLink RX1 41 "TwoTierCache$Tier" "misses" "I", Cond.fieldLink RX1 18 "TwoTierCache$Tier" "policy" "I", Cond.methodLink RX1 67 yX1_holds, Cond.instanceMethod yX1_holds, Cond.selects RX1 yX1_holds yX1_holds, Cond.initialized RX1, Cond.code yX1_holds cX1_holds 3 (some .boolean), Cond.fieldLink RX1 13 "TwoTierCache$Tier" "rows" "[LTwoTierCache$PageRow;", Cond.methodLink RX1 47 yX0_has, Cond.instanceMethod yX0_has, Cond.selects RX0 yX0_has yX0_has, Cond.initialized RX0, Cond.code yX0_has cX0_has 2 (some .boolean), Cond.methodLink RX0 19 yX0_placeOf, Cond.instanceMethod yX0_placeOf, Cond.selects RX0 yX0_placeOf yX0_placeOf, Cond.code yX0_placeOf cX0_placeOf 3 (some .int), Cond.fieldLink RX0 15 "TwoTierCache$PageRow" "size" "I", Cond.fieldLink RX0 11 "TwoTierCache$PageRow" "pages" "[I", Cond.methodLink RX1 70 yX1_touchRecent, Cond.instanceMethod yX1_touchRecent, Cond.selects RX1 yX1_touchRecent yX1_touchRecent, Cond.code yX1_touchRecent cX1_touchRecent 4 (some .int)]
def wsX1_touch_r2 : List Cond := [Cond.fieldLink RX1 22 "TwoTierCache$Tier" "capacity" "I", Cond.methodLink RX1 82 yX0_remove, Cond.instanceMethod yX0_remove, Cond.selects RX0 yX0_remove yX0_remove, Cond.code yX0_remove cX0_remove 3 (some .boolean), Cond.methodLink RX0 23 arraycopyName, Cond.native arraycopyName, Cond.static arraycopyName, Cond.initialized "java/lang/System", Cond.methodLink RX1 85 yX0_size, Cond.instanceMethod yX0_size, Cond.selects RX0 yX0_size yX0_size, Cond.code yX0_size cX0_size 1 (some .int), Cond.methodLink RX1 89 yX0_takeTail, Cond.instanceMethod yX0_takeTail, Cond.selects RX0 yX0_takeTail yX0_takeTail, Cond.code yX0_takeTail cX0_takeTail 1 (some .int), Cond.methodLink RX1 92 yX0_addHead, Cond.instanceMethod yX0_addHead, Cond.selects RX0 yX0_addHead yX0_addHead, Cond.code yX0_addHead cX0_addHead 2 none, Cond.methodLink RX1 73 yX1_touchClock, Cond.instanceMethod yX1_touchClock, Cond.selects RX1 yX1_touchClock yX1_touchClock]
def wsX1_touch_r3 : List Cond := [Cond.code yX1_touchClock cX1_touchClock 4 (some .int), Cond.fieldLink RX1 35 "TwoTierCache$Tier" "markedPages" "J", Cond.methodLink RX1 51 yX1_bit, Cond.static yX1_bit, Cond.code yX1_bit cX1_bit 1 (some .long), Cond.methodLink RX1 96 yX1_spareMarked, Cond.instanceMethod yX1_spareMarked, Cond.selects RX1 yX1_spareMarked yX1_spareMarked, Cond.code yX1_spareMarked cX1_spareMarked 5 none, Cond.constantLong RX1 62 (-1), Cond.methodLink RX1 55 yX0_at, Cond.instanceMethod yX0_at, Cond.selects RX0 yX0_at yX0_at, Cond.code yX0_at cX0_at 2 (some .int), Cond.methodLink RX1 106 yX1_isMarked, Cond.instanceMethod yX1_isMarked, Cond.selects RX1 yX1_isMarked yX1_isMarked, Cond.code yX1_isMarked cX1_isMarked 2 (some .boolean), Cond.methodLink RX1 100 yX0_takeHead, Cond.instanceMethod yX0_takeHead, Cond.selects RX0 yX0_takeHead yX0_takeHead, Cond.code yX0_takeHead cX0_takeHead 2 (some .int), Cond.methodLink RX0 29 yX0_at, Cond.methodLink RX0 32 yX0_remove]
def wsX1_touch_r4 : List Cond := [Cond.methodLink RX1 103 yX0_addTail, Cond.instanceMethod yX0_addTail, Cond.selects RX0 yX0_addTail yX0_addTail, Cond.code yX0_addTail cX0_addTail 2 none, Cond.methodLink RX1 76 yX1_touchQueues, Cond.instanceMethod yX1_touchQueues, Cond.selects RX1 yX1_touchQueues yX1_touchQueues, Cond.code yX1_touchQueues cX1_touchQueues 7 (some .int), Cond.methodLink RX1 109 yX1_makeRoom, Cond.instanceMethod yX1_makeRoom, Cond.selects RX1 yX1_makeRoom yX1_makeRoom, Cond.code yX1_makeRoom cX1_makeRoom 5 (some .int), Cond.methodLink RX1 113 Lib.Math.max.name, Cond.static Lib.Math.max.name, Cond.initialized "java/lang/Math", Cond.code Lib.Math.max.name Lib.Math.max.code 2 (some .int), Cond.methodLink RX1 79 yX1_touchBalanced, Cond.instanceMethod yX1_touchBalanced, Cond.selects RX1 yX1_touchBalanced yX1_touchBalanced, Cond.code yX1_touchBalanced cX1_touchBalanced 3 (some .int), Cond.fieldLink RX1 28 "TwoTierCache$Tier" "goal" "I", Cond.methodLink RX1 123 Lib.Math.min.name, Cond.static Lib.Math.min.name, Cond.code Lib.Math.min.name Lib.Math.min.code 2 (some .int)]
def wsX1_touch_r5 : List Cond := [Cond.methodLink RX1 119 yX1_goalStep, Cond.static yX1_goalStep, Cond.code yX1_goalStep cX1_goalStep 2 (some .int), Cond.methodLink RX1 126 yX1_comeBack, Cond.instanceMethod yX1_comeBack, Cond.selects RX1 yX1_comeBack yX1_comeBack, Cond.code yX1_comeBack cX1_comeBack 5 (some .int), Cond.methodLink RX1 133 yX1_putOut, Cond.instanceMethod yX1_putOut, Cond.selects RX1 yX1_putOut yX1_putOut, Cond.code yX1_putOut cX1_putOut 6 (some .int), Cond.methodLink RX1 130 yX1_makeRoomForNew, Cond.instanceMethod yX1_makeRoomForNew, Cond.selects RX1 yX1_makeRoomForNew yX1_makeRoomForNew, Cond.code yX1_makeRoomForNew cX1_makeRoomForNew 3 (some .int)]
def wsX1_touch : List Cond := .code yX1_touch cX1_touch 2 (some .int) :: ((wsX1_touch_r1 ++ (wsX1_touch_r2 ++ (wsX1_touch_r3 ++ (wsX1_touch_r4 ++ wsX1_touch_r5)))) ++ wsX10 ++ wsX00)
def wsX2_init : List Cond := .code yX2_init cX2_init 1 none :: ([.methodLink RX2 1 objectInit, .instanceMethod objectInit, .code objectInit ⟨#[0xb1]⟩ 1 none, .classLink RX2 7 RX1, .instantiable RX1 9, .initialized RX1, .fieldLink RX2 14 "TwoTierCache" "upper" "LTwoTierCache$Tier;", .fieldLink RX2 18 "TwoTierCache" "lower" "LTwoTierCache$Tier;", .methodLink RX2 11 yX1_init, .instanceMethod yX1_init, .code yX1_init cX1_init 4 none, .methodLink RX1 3 objectInit, .classLink RX1 11 RX0, .fieldLink RX1 13 "TwoTierCache$Tier" "rows" "[LTwoTierCache$PageRow;", .instantiable RX0 2, .initialized RX0, .fieldLink RX1 18 "TwoTierCache$Tier" "policy" "I", .fieldLink RX1 22 "TwoTierCache$Tier" "capacity" "I", .instanceMethod yX0_init, .code yX0_init cX0_init 1 none, .methodLink RX0 3 objectInit, .arrayClass .int, .fieldLink RX0 11 "TwoTierCache$PageRow" "pages" "[I"] ++ wsX10 ++ wsX20 ++ wsX00)
def wsX2_isPolicy : List Cond := .code yX2_isPolicy cX2_isPolicy 1 (some .boolean) :: ([])
def wsX2_isCapacity : List Cond := .code yX2_isCapacity cX2_isCapacity 1 (some .boolean) :: ([])
def wsX2_begin_r1 : List Cond := [Cond.fieldLink RX2 14 "TwoTierCache" "upper" "LTwoTierCache$Tier;", Cond.fieldLink RX2 18 "TwoTierCache" "lower" "LTwoTierCache$Tier;", Cond.fieldLink RX2 31 "TwoTierCache" "pagesRead" "I", Cond.fieldLink RX2 35 "TwoTierCache" "pagesWritten" "I", Cond.methodLink RX2 21 yX2_isPolicy, Cond.static yX2_isPolicy, Cond.initialized RX2, Cond.code yX2_isPolicy cX2_isPolicy 1 (some .boolean), Cond.methodLink RX2 25 yX2_isCapacity, Cond.static yX2_isCapacity, Cond.code yX2_isCapacity cX2_isCapacity 1 (some .boolean), Cond.methodLink RX2 28 yX1_restart, Cond.instanceMethod yX1_restart, Cond.selects RX1 yX1_restart yX1_restart, Cond.initialized RX1, Cond.code yX1_restart cX1_restart 4 none, Cond.fieldLink RX1 13 "TwoTierCache$Tier" "rows" "[LTwoTierCache$PageRow;", Cond.fieldLink RX1 18 "TwoTierCache$Tier" "policy" "I", Cond.fieldLink RX1 22 "TwoTierCache$Tier" "capacity" "I", Cond.fieldLink RX1 28 "TwoTierCache$Tier" "goal" "I", Cond.fieldLink RX1 31 "TwoTierCache$Tier" "dirtyPages" "J", Cond.fieldLink RX1 35 "TwoTierCache$Tier" "markedPages" "J", Cond.fieldLink RX1 38 "TwoTierCache$Tier" "hits" "I", Cond.fieldLink RX1 41 "TwoTierCache$Tier" "misses" "I"]
def wsX2_begin_r2 : List Cond := [Cond.fieldLink RX1 44 "TwoTierCache$Tier" "dirtyVictims" "I", Cond.methodLink RX1 25 yX0_clear, Cond.instanceMethod yX0_clear, Cond.selects RX0 yX0_clear yX0_clear, Cond.initialized RX0, Cond.code yX0_clear cX0_clear 1 none, Cond.fieldLink RX0 15 "TwoTierCache$PageRow" "size" "I"]
def wsX2_begin : List Cond := .code yX2_begin cX2_begin 5 (some .boolean) :: ((wsX2_begin_r1 ++ wsX2_begin_r2) ++ wsX20 ++ wsX10 ++ wsX00)
def wsX2_isPage : List Cond := .code yX2_isPage cX2_isPage 1 (some .boolean) :: ([])
def wsX2_askLower_r1 : List Cond := [Cond.fieldLink RX2 18 "TwoTierCache" "lower" "LTwoTierCache$Tier;", Cond.fieldLink RX2 31 "TwoTierCache" "pagesRead" "I", Cond.fieldLink RX2 35 "TwoTierCache" "pagesWritten" "I", Cond.methodLink RX2 41 yX1_holds, Cond.instanceMethod yX1_holds, Cond.selects RX1 yX1_holds yX1_holds, Cond.initialized RX1, Cond.code yX1_holds cX1_holds 3 (some .boolean), Cond.fieldLink RX1 18 "TwoTierCache$Tier" "policy" "I", Cond.fieldLink RX1 13 "TwoTierCache$Tier" "rows" "[LTwoTierCache$PageRow;", Cond.methodLink RX1 47 yX0_has, Cond.instanceMethod yX0_has, Cond.selects RX0 yX0_has yX0_has, Cond.initialized RX0, Cond.code yX0_has cX0_has 2 (some .boolean), Cond.methodLink RX0 19 yX0_placeOf, Cond.instanceMethod yX0_placeOf, Cond.selects RX0 yX0_placeOf yX0_placeOf, Cond.code yX0_placeOf cX0_placeOf 3 (some .int), Cond.fieldLink RX0 15 "TwoTierCache$PageRow" "size" "I", Cond.fieldLink RX0 11 "TwoTierCache$PageRow" "pages" "[I", Cond.methodLink RX2 44 yX1_touch, Cond.instanceMethod yX1_touch, Cond.selects RX1 yX1_touch yX1_touch]
def wsX2_askLower_r2 : List Cond := [Cond.code yX1_touch cX1_touch 2 (some .int), Cond.fieldLink RX1 38 "TwoTierCache$Tier" "hits" "I", Cond.fieldLink RX1 41 "TwoTierCache$Tier" "misses" "I", Cond.methodLink RX1 67 yX1_holds, Cond.methodLink RX1 70 yX1_touchRecent, Cond.instanceMethod yX1_touchRecent, Cond.selects RX1 yX1_touchRecent yX1_touchRecent, Cond.code yX1_touchRecent cX1_touchRecent 4 (some .int), Cond.fieldLink RX1 22 "TwoTierCache$Tier" "capacity" "I", Cond.methodLink RX1 82 yX0_remove, Cond.instanceMethod yX0_remove, Cond.selects RX0 yX0_remove yX0_remove, Cond.code yX0_remove cX0_remove 3 (some .boolean), Cond.methodLink RX0 23 arraycopyName, Cond.native arraycopyName, Cond.static arraycopyName, Cond.initialized "java/lang/System", Cond.methodLink RX1 85 yX0_size, Cond.instanceMethod yX0_size, Cond.selects RX0 yX0_size yX0_size, Cond.code yX0_size cX0_size 1 (some .int), Cond.methodLink RX1 89 yX0_takeTail, Cond.instanceMethod yX0_takeTail, Cond.selects RX0 yX0_takeTail yX0_takeTail]
def wsX2_askLower_r3 : List Cond := [Cond.code yX0_takeTail cX0_takeTail 1 (some .int), Cond.methodLink RX1 92 yX0_addHead, Cond.instanceMethod yX0_addHead, Cond.selects RX0 yX0_addHead yX0_addHead, Cond.code yX0_addHead cX0_addHead 2 none, Cond.methodLink RX1 73 yX1_touchClock, Cond.instanceMethod yX1_touchClock, Cond.selects RX1 yX1_touchClock yX1_touchClock, Cond.code yX1_touchClock cX1_touchClock 4 (some .int), Cond.fieldLink RX1 35 "TwoTierCache$Tier" "markedPages" "J", Cond.methodLink RX1 51 yX1_bit, Cond.static yX1_bit, Cond.code yX1_bit cX1_bit 1 (some .long), Cond.methodLink RX1 96 yX1_spareMarked, Cond.instanceMethod yX1_spareMarked, Cond.selects RX1 yX1_spareMarked yX1_spareMarked, Cond.code yX1_spareMarked cX1_spareMarked 5 none, Cond.constantLong RX1 62 (-1), Cond.methodLink RX1 55 yX0_at, Cond.instanceMethod yX0_at, Cond.selects RX0 yX0_at yX0_at, Cond.code yX0_at cX0_at 2 (some .int), Cond.methodLink RX1 106 yX1_isMarked, Cond.instanceMethod yX1_isMarked]
def wsX2_askLower_r4 : List Cond := [Cond.selects RX1 yX1_isMarked yX1_isMarked, Cond.code yX1_isMarked cX1_isMarked 2 (some .boolean), Cond.methodLink RX1 100 yX0_takeHead, Cond.instanceMethod yX0_takeHead, Cond.selects RX0 yX0_takeHead yX0_takeHead, Cond.code yX0_takeHead cX0_takeHead 2 (some .int), Cond.methodLink RX0 29 yX0_at, Cond.methodLink RX0 32 yX0_remove, Cond.methodLink RX1 103 yX0_addTail, Cond.instanceMethod yX0_addTail, Cond.selects RX0 yX0_addTail yX0_addTail, Cond.code yX0_addTail cX0_addTail 2 none, Cond.methodLink RX1 76 yX1_touchQueues, Cond.instanceMethod yX1_touchQueues, Cond.selects RX1 yX1_touchQueues yX1_touchQueues, Cond.code yX1_touchQueues cX1_touchQueues 7 (some .int), Cond.methodLink RX1 109 yX1_makeRoom, Cond.instanceMethod yX1_makeRoom, Cond.selects RX1 yX1_makeRoom yX1_makeRoom, Cond.code yX1_makeRoom cX1_makeRoom 5 (some .int), Cond.methodLink RX1 113 Lib.Math.max.name, Cond.static Lib.Math.max.name, Cond.initialized "java/lang/Math", Cond.code Lib.Math.max.name Lib.Math.max.code 2 (some .int)]
def wsX2_askLower_r5 : List Cond := [Cond.methodLink RX1 79 yX1_touchBalanced, Cond.instanceMethod yX1_touchBalanced, Cond.selects RX1 yX1_touchBalanced yX1_touchBalanced, Cond.code yX1_touchBalanced cX1_touchBalanced 3 (some .int), Cond.fieldLink RX1 28 "TwoTierCache$Tier" "goal" "I", Cond.methodLink RX1 123 Lib.Math.min.name, Cond.static Lib.Math.min.name, Cond.code Lib.Math.min.name Lib.Math.min.code 2 (some .int), Cond.methodLink RX1 119 yX1_goalStep, Cond.static yX1_goalStep, Cond.code yX1_goalStep cX1_goalStep 2 (some .int), Cond.methodLink RX1 126 yX1_comeBack, Cond.instanceMethod yX1_comeBack, Cond.selects RX1 yX1_comeBack yX1_comeBack, Cond.code yX1_comeBack cX1_comeBack 5 (some .int), Cond.methodLink RX1 133 yX1_putOut, Cond.instanceMethod yX1_putOut, Cond.selects RX1 yX1_putOut yX1_putOut, Cond.code yX1_putOut cX1_putOut 6 (some .int), Cond.methodLink RX1 130 yX1_makeRoomForNew, Cond.instanceMethod yX1_makeRoomForNew, Cond.selects RX1 yX1_makeRoomForNew yX1_makeRoomForNew, Cond.code yX1_makeRoomForNew cX1_makeRoomForNew 3 (some .int), Cond.methodLink RX2 52 yX1_cleanVictim]
def wsX2_askLower_r6 : List Cond := [Cond.instanceMethod yX1_cleanVictim, Cond.selects RX1 yX1_cleanVictim yX1_cleanVictim, Cond.code yX1_cleanVictim cX1_cleanVictim 2 (some .boolean), Cond.fieldLink RX1 44 "TwoTierCache$Tier" "dirtyVictims" "I", Cond.methodLink RX1 64 yX1_clean, Cond.instanceMethod yX1_clean, Cond.selects RX1 yX1_clean yX1_clean, Cond.code yX1_clean cX1_clean 3 (some .boolean), Cond.fieldLink RX1 31 "TwoTierCache$Tier" "dirtyPages" "J", Cond.methodLink RX1 59 yX1_isDirty, Cond.instanceMethod yX1_isDirty, Cond.selects RX1 yX1_isDirty yX1_isDirty, Cond.code yX1_isDirty cX1_isDirty 2 (some .boolean), Cond.methodLink RX2 55 yX1_soil, Cond.instanceMethod yX1_soil, Cond.selects RX1 yX1_soil yX1_soil, Cond.code yX1_soil cX1_soil 2 none]
def wsX2_askLower : List Cond := .code yX2_askLower cX2_askLower 5 (some .boolean) :: ((wsX2_askLower_r1 ++ (wsX2_askLower_r2 ++ (wsX2_askLower_r3 ++ (wsX2_askLower_r4 ++ (wsX2_askLower_r5 ++ wsX2_askLower_r6))))) ++ wsX20 ++ wsX10 ++ wsX00)
def wsX2_access_r1 : List Cond := [Cond.fieldLink RX2 14 "TwoTierCache" "upper" "LTwoTierCache$Tier;", Cond.methodLink RX2 38 yX2_isPage, Cond.static yX2_isPage, Cond.initialized RX2, Cond.code yX2_isPage cX2_isPage 1 (some .boolean), Cond.methodLink RX2 41 yX1_holds, Cond.instanceMethod yX1_holds, Cond.selects RX1 yX1_holds yX1_holds, Cond.initialized RX1, Cond.code yX1_holds cX1_holds 3 (some .boolean), Cond.fieldLink RX1 18 "TwoTierCache$Tier" "policy" "I", Cond.fieldLink RX1 13 "TwoTierCache$Tier" "rows" "[LTwoTierCache$PageRow;", Cond.methodLink RX1 47 yX0_has, Cond.instanceMethod yX0_has, Cond.selects RX0 yX0_has yX0_has, Cond.initialized RX0, Cond.code yX0_has cX0_has 2 (some .boolean), Cond.methodLink RX0 19 yX0_placeOf, Cond.instanceMethod yX0_placeOf, Cond.selects RX0 yX0_placeOf yX0_placeOf, Cond.code yX0_placeOf cX0_placeOf 3 (some .int), Cond.fieldLink RX0 15 "TwoTierCache$PageRow" "size" "I", Cond.fieldLink RX0 11 "TwoTierCache$PageRow" "pages" "[I", Cond.methodLink RX2 44 yX1_touch]
def wsX2_access_r2 : List Cond := [Cond.instanceMethod yX1_touch, Cond.selects RX1 yX1_touch yX1_touch, Cond.code yX1_touch cX1_touch 2 (some .int), Cond.fieldLink RX1 38 "TwoTierCache$Tier" "hits" "I", Cond.fieldLink RX1 41 "TwoTierCache$Tier" "misses" "I", Cond.methodLink RX1 67 yX1_holds, Cond.methodLink RX1 70 yX1_touchRecent, Cond.instanceMethod yX1_touchRecent, Cond.selects RX1 yX1_touchRecent yX1_touchRecent, Cond.code yX1_touchRecent cX1_touchRecent 4 (some .int), Cond.fieldLink RX1 22 "TwoTierCache$Tier" "capacity" "I", Cond.methodLink RX1 82 yX0_remove, Cond.instanceMethod yX0_remove, Cond.selects RX0 yX0_remove yX0_remove, Cond.code yX0_remove cX0_remove 3 (some .boolean), Cond.methodLink RX0 23 arraycopyName, Cond.native arraycopyName, Cond.static arraycopyName, Cond.initialized "java/lang/System", Cond.methodLink RX1 85 yX0_size, Cond.instanceMethod yX0_size, Cond.selects RX0 yX0_size yX0_size, Cond.code yX0_size cX0_size 1 (some .int), Cond.methodLink RX1 89 yX0_takeTail]
def wsX2_access_r3 : List Cond := [Cond.instanceMethod yX0_takeTail, Cond.selects RX0 yX0_takeTail yX0_takeTail, Cond.code yX0_takeTail cX0_takeTail 1 (some .int), Cond.methodLink RX1 92 yX0_addHead, Cond.instanceMethod yX0_addHead, Cond.selects RX0 yX0_addHead yX0_addHead, Cond.code yX0_addHead cX0_addHead 2 none, Cond.methodLink RX1 73 yX1_touchClock, Cond.instanceMethod yX1_touchClock, Cond.selects RX1 yX1_touchClock yX1_touchClock, Cond.code yX1_touchClock cX1_touchClock 4 (some .int), Cond.fieldLink RX1 35 "TwoTierCache$Tier" "markedPages" "J", Cond.methodLink RX1 51 yX1_bit, Cond.static yX1_bit, Cond.code yX1_bit cX1_bit 1 (some .long), Cond.methodLink RX1 96 yX1_spareMarked, Cond.instanceMethod yX1_spareMarked, Cond.selects RX1 yX1_spareMarked yX1_spareMarked, Cond.code yX1_spareMarked cX1_spareMarked 5 none, Cond.constantLong RX1 62 (-1), Cond.methodLink RX1 55 yX0_at, Cond.instanceMethod yX0_at, Cond.selects RX0 yX0_at yX0_at, Cond.code yX0_at cX0_at 2 (some .int)]
def wsX2_access_r4 : List Cond := [Cond.methodLink RX1 106 yX1_isMarked, Cond.instanceMethod yX1_isMarked, Cond.selects RX1 yX1_isMarked yX1_isMarked, Cond.code yX1_isMarked cX1_isMarked 2 (some .boolean), Cond.methodLink RX1 100 yX0_takeHead, Cond.instanceMethod yX0_takeHead, Cond.selects RX0 yX0_takeHead yX0_takeHead, Cond.code yX0_takeHead cX0_takeHead 2 (some .int), Cond.methodLink RX0 29 yX0_at, Cond.methodLink RX0 32 yX0_remove, Cond.methodLink RX1 103 yX0_addTail, Cond.instanceMethod yX0_addTail, Cond.selects RX0 yX0_addTail yX0_addTail, Cond.code yX0_addTail cX0_addTail 2 none, Cond.methodLink RX1 76 yX1_touchQueues, Cond.instanceMethod yX1_touchQueues, Cond.selects RX1 yX1_touchQueues yX1_touchQueues, Cond.code yX1_touchQueues cX1_touchQueues 7 (some .int), Cond.methodLink RX1 109 yX1_makeRoom, Cond.instanceMethod yX1_makeRoom, Cond.selects RX1 yX1_makeRoom yX1_makeRoom, Cond.code yX1_makeRoom cX1_makeRoom 5 (some .int), Cond.methodLink RX1 113 Lib.Math.max.name, Cond.static Lib.Math.max.name]
def wsX2_access_r5 : List Cond := [Cond.initialized "java/lang/Math", Cond.code Lib.Math.max.name Lib.Math.max.code 2 (some .int), Cond.methodLink RX1 79 yX1_touchBalanced, Cond.instanceMethod yX1_touchBalanced, Cond.selects RX1 yX1_touchBalanced yX1_touchBalanced, Cond.code yX1_touchBalanced cX1_touchBalanced 3 (some .int), Cond.fieldLink RX1 28 "TwoTierCache$Tier" "goal" "I", Cond.methodLink RX1 123 Lib.Math.min.name, Cond.static Lib.Math.min.name, Cond.code Lib.Math.min.name Lib.Math.min.code 2 (some .int), Cond.methodLink RX1 119 yX1_goalStep, Cond.static yX1_goalStep, Cond.code yX1_goalStep cX1_goalStep 2 (some .int), Cond.methodLink RX1 126 yX1_comeBack, Cond.instanceMethod yX1_comeBack, Cond.selects RX1 yX1_comeBack yX1_comeBack, Cond.code yX1_comeBack cX1_comeBack 5 (some .int), Cond.methodLink RX1 133 yX1_putOut, Cond.instanceMethod yX1_putOut, Cond.selects RX1 yX1_putOut yX1_putOut, Cond.code yX1_putOut cX1_putOut 6 (some .int), Cond.methodLink RX1 130 yX1_makeRoomForNew, Cond.instanceMethod yX1_makeRoomForNew, Cond.selects RX1 yX1_makeRoomForNew yX1_makeRoomForNew]
def wsX2_access_r6 : List Cond := [Cond.code yX1_makeRoomForNew cX1_makeRoomForNew 3 (some .int), Cond.methodLink RX2 48 yX2_askLower, Cond.instanceMethod yX2_askLower, Cond.selects RX2 yX2_askLower yX2_askLower, Cond.code yX2_askLower cX2_askLower 5 (some .boolean), Cond.fieldLink RX2 18 "TwoTierCache" "lower" "LTwoTierCache$Tier;", Cond.fieldLink RX2 31 "TwoTierCache" "pagesRead" "I", Cond.fieldLink RX2 35 "TwoTierCache" "pagesWritten" "I", Cond.methodLink RX2 52 yX1_cleanVictim, Cond.instanceMethod yX1_cleanVictim, Cond.selects RX1 yX1_cleanVictim yX1_cleanVictim, Cond.code yX1_cleanVictim cX1_cleanVictim 2 (some .boolean), Cond.fieldLink RX1 44 "TwoTierCache$Tier" "dirtyVictims" "I", Cond.methodLink RX1 64 yX1_clean, Cond.instanceMethod yX1_clean, Cond.selects RX1 yX1_clean yX1_clean, Cond.code yX1_clean cX1_clean 3 (some .boolean), Cond.fieldLink RX1 31 "TwoTierCache$Tier" "dirtyPages" "J", Cond.methodLink RX1 59 yX1_isDirty, Cond.instanceMethod yX1_isDirty, Cond.selects RX1 yX1_isDirty yX1_isDirty, Cond.code yX1_isDirty cX1_isDirty 2 (some .boolean), Cond.methodLink RX2 55 yX1_soil, Cond.instanceMethod yX1_soil]
def wsX2_access_r7 : List Cond := [Cond.selects RX1 yX1_soil yX1_soil, Cond.code yX1_soil cX1_soil 2 none]
def wsX2_access : List Cond := .code yX2_access cX2_access 6 (some .int) :: ((wsX2_access_r1 ++ (wsX2_access_r2 ++ (wsX2_access_r3 ++ (wsX2_access_r4 ++ (wsX2_access_r5 ++ (wsX2_access_r6 ++ wsX2_access_r7)))))) ++ wsX20 ++ wsX10 ++ wsX00)
def wsX2_flush_r1 : List Cond := [Cond.fieldLink RX2 35 "TwoTierCache" "pagesWritten" "I", Cond.fieldLink RX2 14 "TwoTierCache" "upper" "LTwoTierCache$Tier;", Cond.fieldLink RX2 18 "TwoTierCache" "lower" "LTwoTierCache$Tier;", Cond.methodLink RX2 59 yX1_clean, Cond.instanceMethod yX1_clean, Cond.selects RX1 yX1_clean yX1_clean, Cond.initialized RX1, Cond.code yX1_clean cX1_clean 3 (some .boolean), Cond.fieldLink RX1 31 "TwoTierCache$Tier" "dirtyPages" "J", Cond.constantLong RX1 62 (-1), Cond.methodLink RX1 59 yX1_isDirty, Cond.instanceMethod yX1_isDirty, Cond.selects RX1 yX1_isDirty yX1_isDirty, Cond.code yX1_isDirty cX1_isDirty 2 (some .boolean), Cond.methodLink RX1 51 yX1_bit, Cond.static yX1_bit, Cond.code yX1_bit cX1_bit 1 (some .long), Cond.methodLink RX2 48 yX2_askLower, Cond.instanceMethod yX2_askLower, Cond.selects RX2 yX2_askLower yX2_askLower, Cond.initialized RX2, Cond.code yX2_askLower cX2_askLower 5 (some .boolean), Cond.fieldLink RX2 31 "TwoTierCache" "pagesRead" "I", Cond.methodLink RX2 41 yX1_holds]
def wsX2_flush_r2 : List Cond := [Cond.instanceMethod yX1_holds, Cond.selects RX1 yX1_holds yX1_holds, Cond.code yX1_holds cX1_holds 3 (some .boolean), Cond.fieldLink RX1 18 "TwoTierCache$Tier" "policy" "I", Cond.fieldLink RX1 13 "TwoTierCache$Tier" "rows" "[LTwoTierCache$PageRow;", Cond.methodLink RX1 47 yX0_has, Cond.instanceMethod yX0_has, Cond.selects RX0 yX0_has yX0_has, Cond.initialized RX0, Cond.code yX0_has cX0_has 2 (some .boolean), Cond.methodLink RX0 19 yX0_placeOf, Cond.instanceMethod yX0_placeOf, Cond.selects RX0 yX0_placeOf yX0_placeOf, Cond.code yX0_placeOf cX0_placeOf 3 (some .int), Cond.fieldLink RX0 15 "TwoTierCache$PageRow" "size" "I", Cond.fieldLink RX0 11 "TwoTierCache$PageRow" "pages" "[I", Cond.methodLink RX2 44 yX1_touch, Cond.instanceMethod yX1_touch, Cond.selects RX1 yX1_touch yX1_touch, Cond.code yX1_touch cX1_touch 2 (some .int), Cond.fieldLink RX1 38 "TwoTierCache$Tier" "hits" "I", Cond.fieldLink RX1 41 "TwoTierCache$Tier" "misses" "I", Cond.methodLink RX1 67 yX1_holds, Cond.methodLink RX1 70 yX1_touchRecent]
def wsX2_flush_r3 : List Cond := [Cond.instanceMethod yX1_touchRecent, Cond.selects RX1 yX1_touchRecent yX1_touchRecent, Cond.code yX1_touchRecent cX1_touchRecent 4 (some .int), Cond.fieldLink RX1 22 "TwoTierCache$Tier" "capacity" "I", Cond.methodLink RX1 82 yX0_remove, Cond.instanceMethod yX0_remove, Cond.selects RX0 yX0_remove yX0_remove, Cond.code yX0_remove cX0_remove 3 (some .boolean), Cond.methodLink RX0 23 arraycopyName, Cond.native arraycopyName, Cond.static arraycopyName, Cond.initialized "java/lang/System", Cond.methodLink RX1 85 yX0_size, Cond.instanceMethod yX0_size, Cond.selects RX0 yX0_size yX0_size, Cond.code yX0_size cX0_size 1 (some .int), Cond.methodLink RX1 89 yX0_takeTail, Cond.instanceMethod yX0_takeTail, Cond.selects RX0 yX0_takeTail yX0_takeTail, Cond.code yX0_takeTail cX0_takeTail 1 (some .int), Cond.methodLink RX1 92 yX0_addHead, Cond.instanceMethod yX0_addHead, Cond.selects RX0 yX0_addHead yX0_addHead, Cond.code yX0_addHead cX0_addHead 2 none]
def wsX2_flush_r4 : List Cond := [Cond.methodLink RX1 73 yX1_touchClock, Cond.instanceMethod yX1_touchClock, Cond.selects RX1 yX1_touchClock yX1_touchClock, Cond.code yX1_touchClock cX1_touchClock 4 (some .int), Cond.fieldLink RX1 35 "TwoTierCache$Tier" "markedPages" "J", Cond.methodLink RX1 96 yX1_spareMarked, Cond.instanceMethod yX1_spareMarked, Cond.selects RX1 yX1_spareMarked yX1_spareMarked, Cond.code yX1_spareMarked cX1_spareMarked 5 none, Cond.methodLink RX1 55 yX0_at, Cond.instanceMethod yX0_at, Cond.selects RX0 yX0_at yX0_at, Cond.code yX0_at cX0_at 2 (some .int), Cond.methodLink RX1 106 yX1_isMarked, Cond.instanceMethod yX1_isMarked, Cond.selects RX1 yX1_isMarked yX1_isMarked, Cond.code yX1_isMarked cX1_isMarked 2 (some .boolean), Cond.methodLink RX1 100 yX0_takeHead, Cond.instanceMethod yX0_takeHead, Cond.selects RX0 yX0_takeHead yX0_takeHead, Cond.code yX0_takeHead cX0_takeHead 2 (some .int), Cond.methodLink RX0 29 yX0_at, Cond.methodLink RX0 32 yX0_remove, Cond.methodLink RX1 103 yX0_addTail]
def wsX2_flush_r5 : List Cond := [Cond.instanceMethod yX0_addTail, Cond.selects RX0 yX0_addTail yX0_addTail, Cond.code yX0_addTail cX0_addTail 2 none, Cond.methodLink RX1 76 yX1_touchQueues, Cond.instanceMethod yX1_touchQueues, Cond.selects RX1 yX1_touchQueues yX1_touchQueues, Cond.code yX1_touchQueues cX1_touchQueues 7 (some .int), Cond.methodLink RX1 109 yX1_makeRoom, Cond.instanceMethod yX1_makeRoom, Cond.selects RX1 yX1_makeRoom yX1_makeRoom, Cond.code yX1_makeRoom cX1_makeRoom 5 (some .int), Cond.methodLink RX1 113 Lib.Math.max.name, Cond.static Lib.Math.max.name, Cond.initialized "java/lang/Math", Cond.code Lib.Math.max.name Lib.Math.max.code 2 (some .int), Cond.methodLink RX1 79 yX1_touchBalanced, Cond.instanceMethod yX1_touchBalanced, Cond.selects RX1 yX1_touchBalanced yX1_touchBalanced, Cond.code yX1_touchBalanced cX1_touchBalanced 3 (some .int), Cond.fieldLink RX1 28 "TwoTierCache$Tier" "goal" "I", Cond.methodLink RX1 123 Lib.Math.min.name, Cond.static Lib.Math.min.name, Cond.code Lib.Math.min.name Lib.Math.min.code 2 (some .int), Cond.methodLink RX1 119 yX1_goalStep]
def wsX2_flush_r6 : List Cond := [Cond.static yX1_goalStep, Cond.code yX1_goalStep cX1_goalStep 2 (some .int), Cond.methodLink RX1 126 yX1_comeBack, Cond.instanceMethod yX1_comeBack, Cond.selects RX1 yX1_comeBack yX1_comeBack, Cond.code yX1_comeBack cX1_comeBack 5 (some .int), Cond.methodLink RX1 133 yX1_putOut, Cond.instanceMethod yX1_putOut, Cond.selects RX1 yX1_putOut yX1_putOut, Cond.code yX1_putOut cX1_putOut 6 (some .int), Cond.methodLink RX1 130 yX1_makeRoomForNew, Cond.instanceMethod yX1_makeRoomForNew, Cond.selects RX1 yX1_makeRoomForNew yX1_makeRoomForNew, Cond.code yX1_makeRoomForNew cX1_makeRoomForNew 3 (some .int), Cond.methodLink RX2 52 yX1_cleanVictim, Cond.instanceMethod yX1_cleanVictim, Cond.selects RX1 yX1_cleanVictim yX1_cleanVictim, Cond.code yX1_cleanVictim cX1_cleanVictim 2 (some .boolean), Cond.fieldLink RX1 44 "TwoTierCache$Tier" "dirtyVictims" "I", Cond.methodLink RX1 64 yX1_clean, Cond.methodLink RX2 55 yX1_soil, Cond.instanceMethod yX1_soil, Cond.selects RX1 yX1_soil yX1_soil, Cond.code yX1_soil cX1_soil 2 none]
def wsX2_flush : List Cond := .code yX2_flush cX2_flush 3 (some .int) :: ((wsX2_flush_r1 ++ (wsX2_flush_r2 ++ (wsX2_flush_r3 ++ (wsX2_flush_r4 ++ (wsX2_flush_r5 ++ wsX2_flush_r6))))) ++ wsX20 ++ wsX10 ++ wsX00)
def wsX2_tierAt : List Cond := .code yX2_tierAt cX2_tierAt 2 (some (.object "TwoTierCache$Tier")) :: ([.fieldLink RX2 14 "TwoTierCache" "upper" "LTwoTierCache$Tier;", .fieldLink RX2 18 "TwoTierCache" "lower" "LTwoTierCache$Tier;"] ++ wsX20)
def wsX2_resident_r1 : List Cond := [Cond.methodLink RX2 62 yX2_tierAt, Cond.instanceMethod yX2_tierAt, Cond.selects RX2 yX2_tierAt yX2_tierAt, Cond.initialized RX2, Cond.code yX2_tierAt cX2_tierAt 2 (some (.object "TwoTierCache$Tier")), Cond.fieldLink RX2 14 "TwoTierCache" "upper" "LTwoTierCache$Tier;", Cond.fieldLink RX2 18 "TwoTierCache" "lower" "LTwoTierCache$Tier;", Cond.methodLink RX2 38 yX2_isPage, Cond.static yX2_isPage, Cond.code yX2_isPage cX2_isPage 1 (some .boolean), Cond.methodLink RX2 41 yX1_holds, Cond.instanceMethod yX1_holds, Cond.selects RX1 yX1_holds yX1_holds, Cond.initialized RX1, Cond.code yX1_holds cX1_holds 3 (some .boolean), Cond.fieldLink RX1 18 "TwoTierCache$Tier" "policy" "I", Cond.fieldLink RX1 13 "TwoTierCache$Tier" "rows" "[LTwoTierCache$PageRow;", Cond.methodLink RX1 47 yX0_has, Cond.instanceMethod yX0_has, Cond.selects RX0 yX0_has yX0_has, Cond.initialized RX0, Cond.code yX0_has cX0_has 2 (some .boolean), Cond.methodLink RX0 19 yX0_placeOf, Cond.instanceMethod yX0_placeOf]
def wsX2_resident_r2 : List Cond := [Cond.selects RX0 yX0_placeOf yX0_placeOf, Cond.code yX0_placeOf cX0_placeOf 3 (some .int), Cond.fieldLink RX0 15 "TwoTierCache$PageRow" "size" "I", Cond.fieldLink RX0 11 "TwoTierCache$PageRow" "pages" "[I"]
def wsX2_resident : List Cond := .code yX2_resident cX2_resident 4 (some .boolean) :: ((wsX2_resident_r1 ++ wsX2_resident_r2) ++ wsX20 ++ wsX10 ++ wsX00)
def wsX2_dirty : List Cond := .code yX2_dirty cX2_dirty 4 (some .boolean) :: ([.methodLink RX2 62 yX2_tierAt, .instanceMethod yX2_tierAt, .selects RX2 yX2_tierAt yX2_tierAt, .initialized RX2, .code yX2_tierAt cX2_tierAt 2 (some (.object "TwoTierCache$Tier")), .fieldLink RX2 14 "TwoTierCache" "upper" "LTwoTierCache$Tier;", .fieldLink RX2 18 "TwoTierCache" "lower" "LTwoTierCache$Tier;", .methodLink RX2 38 yX2_isPage, .static yX2_isPage, .code yX2_isPage cX2_isPage 1 (some .boolean), .methodLink RX2 66 yX1_isDirty, .instanceMethod yX1_isDirty, .selects RX1 yX1_isDirty yX1_isDirty, .initialized RX1, .code yX1_isDirty cX1_isDirty 2 (some .boolean), .fieldLink RX1 31 "TwoTierCache$Tier" "dirtyPages" "J", .methodLink RX1 51 yX1_bit, .static yX1_bit, .code yX1_bit cX1_bit 1 (some .long)] ++ wsX20 ++ wsX10)
def wsX2_marked : List Cond := .code yX2_marked cX2_marked 4 (some .boolean) :: ([.methodLink RX2 62 yX2_tierAt, .instanceMethod yX2_tierAt, .selects RX2 yX2_tierAt yX2_tierAt, .initialized RX2, .code yX2_tierAt cX2_tierAt 2 (some (.object "TwoTierCache$Tier")), .fieldLink RX2 14 "TwoTierCache" "upper" "LTwoTierCache$Tier;", .fieldLink RX2 18 "TwoTierCache" "lower" "LTwoTierCache$Tier;", .methodLink RX2 38 yX2_isPage, .static yX2_isPage, .code yX2_isPage cX2_isPage 1 (some .boolean), .methodLink RX2 69 yX1_isMarked, .instanceMethod yX1_isMarked, .selects RX1 yX1_isMarked yX1_isMarked, .initialized RX1, .code yX1_isMarked cX1_isMarked 2 (some .boolean), .fieldLink RX1 35 "TwoTierCache$Tier" "markedPages" "J", .methodLink RX1 51 yX1_bit, .static yX1_bit, .code yX1_bit cX1_bit 1 (some .long)] ++ wsX20 ++ wsX10)
def wsX2_row : List Cond := .code yX2_row cX2_row 5 (some .int) :: ([.methodLink RX2 62 yX2_tierAt, .instanceMethod yX2_tierAt, .selects RX2 yX2_tierAt yX2_tierAt, .initialized RX2, .code yX2_tierAt cX2_tierAt 2 (some (.object "TwoTierCache$Tier")), .fieldLink RX2 14 "TwoTierCache" "upper" "LTwoTierCache$Tier;", .fieldLink RX2 18 "TwoTierCache" "lower" "LTwoTierCache$Tier;", .methodLink RX2 72 yX1_pageAt, .instanceMethod yX1_pageAt, .selects RX1 yX1_pageAt yX1_pageAt, .initialized RX1, .code yX1_pageAt cX1_pageAt 3 (some .int), .fieldLink RX1 13 "TwoTierCache$Tier" "rows" "[LTwoTierCache$PageRow;", .methodLink RX1 55 yX0_at, .instanceMethod yX0_at, .selects RX0 yX0_at yX0_at, .initialized RX0, .code yX0_at cX0_at 2 (some .int), .fieldLink RX0 15 "TwoTierCache$PageRow" "size" "I", .fieldLink RX0 11 "TwoTierCache$PageRow" "pages" "[I"] ++ wsX20 ++ wsX10 ++ wsX00)
def wsX2_goal : List Cond := .code yX2_goal cX2_goal 3 (some .int) :: ([.methodLink RX2 62 yX2_tierAt, .instanceMethod yX2_tierAt, .selects RX2 yX2_tierAt yX2_tierAt, .initialized RX2, .code yX2_tierAt cX2_tierAt 2 (some (.object "TwoTierCache$Tier")), .fieldLink RX2 14 "TwoTierCache" "upper" "LTwoTierCache$Tier;", .fieldLink RX2 18 "TwoTierCache" "lower" "LTwoTierCache$Tier;", .methodLink RX2 76 yX1_currentGoal, .instanceMethod yX1_currentGoal, .selects RX1 yX1_currentGoal yX1_currentGoal, .initialized RX1, .code yX1_currentGoal cX1_currentGoal 1 (some .int), .fieldLink RX1 18 "TwoTierCache$Tier" "policy" "I", .fieldLink RX1 28 "TwoTierCache$Tier" "goal" "I"] ++ wsX20 ++ wsX10)
def wsX2_count : List Cond := .code yX2_count cX2_count 4 (some .int) :: ([.methodLink RX2 62 yX2_tierAt, .instanceMethod yX2_tierAt, .selects RX2 yX2_tierAt yX2_tierAt, .initialized RX2, .code yX2_tierAt cX2_tierAt 2 (some (.object "TwoTierCache$Tier")), .fieldLink RX2 14 "TwoTierCache" "upper" "LTwoTierCache$Tier;", .fieldLink RX2 18 "TwoTierCache" "lower" "LTwoTierCache$Tier;", .methodLink RX2 80 yX1_tally, .instanceMethod yX1_tally, .selects RX1 yX1_tally yX1_tally, .initialized RX1, .code yX1_tally cX1_tally 2 (some .int), .fieldLink RX1 38 "TwoTierCache$Tier" "hits" "I", .fieldLink RX1 41 "TwoTierCache$Tier" "misses" "I", .fieldLink RX1 44 "TwoTierCache$Tier" "dirtyVictims" "I"] ++ wsX20 ++ wsX10)
def wsX2_reads : List Cond := .code yX2_reads cX2_reads 1 (some .int) :: ([.fieldLink RX2 31 "TwoTierCache" "pagesRead" "I"] ++ wsX20)
def wsX2_writes : List Cond := .code yX2_writes cX2_writes 1 (some .int) :: ([.fieldLink RX2 35 "TwoTierCache" "pagesWritten" "I"] ++ wsX20)
def wsX3_init : List Cond := .code yX3_init cX3_init 1 none :: ([.methodLink RX3 1 objectInit, .instanceMethod objectInit, .code objectInit ⟨#[0xb1]⟩ 1 none, .arrayClass .int, .fieldLink RX3 7 "TwoTierCacheModel" "policies" "[I", .fieldLink RX3 13 "TwoTierCacheModel" "capacities" "[I", .fieldLink RX3 16 "TwoTierCacheModel" "goals" "[I", .fieldLink RX3 19 "TwoTierCacheModel" "lengths" "[I", .fieldLink RX3 22 "TwoTierCacheModel" "pages" "[I", .arrayClass .boolean, .fieldLink RX3 25 "TwoTierCacheModel" "marks" "[Z", .fieldLink RX3 29 "TwoTierCacheModel" "wet" "[Z", .fieldLink RX3 32 "TwoTierCacheModel" "counts" "[I"] ++ wsX30)
def wsX3_isTier : List Cond := .code yX3_isTier cX3_isTier 1 (some .boolean) :: ([])
def wsX3_isPage : List Cond := .code yX3_isPage cX3_isPage 1 (some .boolean) :: ([])
def wsX3_begin : List Cond := .code yX3_begin cX3_begin 7 (some .boolean) :: ([.fieldLink RX3 7 "TwoTierCacheModel" "policies" "[I", .fieldLink RX3 13 "TwoTierCacheModel" "capacities" "[I", .fieldLink RX3 19 "TwoTierCacheModel" "lengths" "[I", .fieldLink RX3 25 "TwoTierCacheModel" "marks" "[Z", .fieldLink RX3 29 "TwoTierCacheModel" "wet" "[Z", .fieldLink RX3 32 "TwoTierCacheModel" "counts" "[I", .fieldLink RX3 16 "TwoTierCacheModel" "goals" "[I", .fieldLink RX3 35 "TwoTierCacheModel" "reads" "I", .fieldLink RX3 39 "TwoTierCacheModel" "writes" "I"] ++ wsX30)
def wsX3_placeIn : List Cond := .code yX3_placeIn cX3_placeIn 4 (some .int) :: ([.fieldLink RX3 19 "TwoTierCacheModel" "lengths" "[I", .fieldLink RX3 22 "TwoTierCacheModel" "pages" "[I"] ++ wsX30)
def wsX3_isIn : List Cond := .code yX3_isIn cX3_isIn 3 (some .boolean) :: ([.methodLink RX3 42 yX3_placeIn, .instanceMethod yX3_placeIn, .selects RX3 yX3_placeIn yX3_placeIn, .initialized RX3, .code yX3_placeIn cX3_placeIn 4 (some .int), .fieldLink RX3 19 "TwoTierCacheModel" "lengths" "[I", .fieldLink RX3 22 "TwoTierCacheModel" "pages" "[I"] ++ wsX30)
def wsX3_takeOut : List Cond := .code yX3_takeOut cX3_takeOut 5 none :: ([.fieldLink RX3 19 "TwoTierCacheModel" "lengths" "[I", .fieldLink RX3 22 "TwoTierCacheModel" "pages" "[I", .methodLink RX3 42 yX3_placeIn, .instanceMethod yX3_placeIn, .selects RX3 yX3_placeIn yX3_placeIn, .initialized RX3, .code yX3_placeIn cX3_placeIn 4 (some .int)] ++ wsX30)
def wsX3_toHead : List Cond := .code yX3_toHead cX3_toHead 4 none :: ([.fieldLink RX3 19 "TwoTierCacheModel" "lengths" "[I", .fieldLink RX3 22 "TwoTierCacheModel" "pages" "[I"] ++ wsX30)
def wsX3_toTail : List Cond := .code yX3_toTail cX3_toTail 3 none :: ([.fieldLink RX3 22 "TwoTierCacheModel" "pages" "[I", .fieldLink RX3 19 "TwoTierCacheModel" "lengths" "[I"] ++ wsX30)
def wsX3_cutTail : List Cond := .code yX3_cutTail cX3_cutTail 2 (some .int) :: ([.fieldLink RX3 19 "TwoTierCacheModel" "lengths" "[I", .fieldLink RX3 22 "TwoTierCacheModel" "pages" "[I"] ++ wsX30)
def wsX3_move : List Cond := .code yX3_move cX3_move 4 none :: ([.methodLink RX3 46 yX3_takeOut, .instanceMethod yX3_takeOut, .selects RX3 yX3_takeOut yX3_takeOut, .initialized RX3, .code yX3_takeOut cX3_takeOut 5 none, .fieldLink RX3 19 "TwoTierCacheModel" "lengths" "[I", .fieldLink RX3 22 "TwoTierCacheModel" "pages" "[I", .methodLink RX3 42 yX3_placeIn, .instanceMethod yX3_placeIn, .selects RX3 yX3_placeIn yX3_placeIn, .code yX3_placeIn cX3_placeIn 4 (some .int), .methodLink RX3 50 yX3_toHead, .instanceMethod yX3_toHead, .selects RX3 yX3_toHead yX3_toHead, .code yX3_toHead cX3_toHead 4 none] ++ wsX30)
def wsX3_recent_r1 : List Cond := [Cond.fieldLink RX3 19 "TwoTierCacheModel" "lengths" "[I", Cond.fieldLink RX3 13 "TwoTierCacheModel" "capacities" "[I", Cond.fieldLink RX3 65 "TwoTierCacheModel" "victim" "I", Cond.methodLink RX3 53 yX3_isIn, Cond.instanceMethod yX3_isIn, Cond.selects RX3 yX3_isIn yX3_isIn, Cond.initialized RX3, Cond.code yX3_isIn cX3_isIn 3 (some .boolean), Cond.methodLink RX3 42 yX3_placeIn, Cond.instanceMethod yX3_placeIn, Cond.selects RX3 yX3_placeIn yX3_placeIn, Cond.code yX3_placeIn cX3_placeIn 4 (some .int), Cond.fieldLink RX3 22 "TwoTierCacheModel" "pages" "[I", Cond.methodLink RX3 57 yX3_move, Cond.instanceMethod yX3_move, Cond.selects RX3 yX3_move yX3_move, Cond.code yX3_move cX3_move 4 none, Cond.methodLink RX3 46 yX3_takeOut, Cond.instanceMethod yX3_takeOut, Cond.selects RX3 yX3_takeOut yX3_takeOut, Cond.code yX3_takeOut cX3_takeOut 5 none, Cond.methodLink RX3 50 yX3_toHead, Cond.instanceMethod yX3_toHead, Cond.selects RX3 yX3_toHead yX3_toHead]
def wsX3_recent_r2 : List Cond := [Cond.code yX3_toHead cX3_toHead 4 none, Cond.methodLink RX3 61 yX3_cutTail, Cond.instanceMethod yX3_cutTail, Cond.selects RX3 yX3_cutTail yX3_cutTail, Cond.code yX3_cutTail cX3_cutTail 2 (some .int)]
def wsX3_recent : List Cond := .code yX3_recent cX3_recent 4 (some .boolean) :: ((wsX3_recent_r1 ++ wsX3_recent_r2) ++ wsX30)
def wsX3_clock : List Cond := .code yX3_clock cX3_clock 5 (some .boolean) :: ([.fieldLink RX3 25 "TwoTierCacheModel" "marks" "[Z", .fieldLink RX3 19 "TwoTierCacheModel" "lengths" "[I", .fieldLink RX3 13 "TwoTierCacheModel" "capacities" "[I", .fieldLink RX3 22 "TwoTierCacheModel" "pages" "[I", .fieldLink RX3 65 "TwoTierCacheModel" "victim" "I", .methodLink RX3 53 yX3_isIn, .instanceMethod yX3_isIn, .selects RX3 yX3_isIn yX3_isIn, .initialized RX3, .code yX3_isIn cX3_isIn 3 (some .boolean), .methodLink RX3 42 yX3_placeIn, .instanceMethod yX3_placeIn, .selects RX3 yX3_placeIn yX3_placeIn, .code yX3_placeIn cX3_placeIn 4 (some .int), .methodLink RX3 46 yX3_takeOut, .instanceMethod yX3_takeOut, .selects RX3 yX3_takeOut yX3_takeOut, .code yX3_takeOut cX3_takeOut 5 none, .methodLink RX3 68 yX3_toTail, .instanceMethod yX3_toTail, .selects RX3 yX3_toTail yX3_toTail, .code yX3_toTail cX3_toTail 3 none] ++ wsX30)
def wsX3_makeRoom : List Cond := .code yX3_makeRoom cX3_makeRoom 5 none :: ([.fieldLink RX3 13 "TwoTierCacheModel" "capacities" "[I", .fieldLink RX3 19 "TwoTierCacheModel" "lengths" "[I", .fieldLink RX3 65 "TwoTierCacheModel" "victim" "I", .methodLink RX3 61 yX3_cutTail, .instanceMethod yX3_cutTail, .selects RX3 yX3_cutTail yX3_cutTail, .initialized RX3, .code yX3_cutTail cX3_cutTail 2 (some .int), .fieldLink RX3 22 "TwoTierCacheModel" "pages" "[I", .methodLink RX3 50 yX3_toHead, .instanceMethod yX3_toHead, .selects RX3 yX3_toHead yX3_toHead, .code yX3_toHead cX3_toHead 4 none] ++ wsX30)
def wsX3_queues_r1 : List Cond := [Cond.methodLink RX3 53 yX3_isIn, Cond.instanceMethod yX3_isIn, Cond.selects RX3 yX3_isIn yX3_isIn, Cond.initialized RX3, Cond.code yX3_isIn cX3_isIn 3 (some .boolean), Cond.methodLink RX3 42 yX3_placeIn, Cond.instanceMethod yX3_placeIn, Cond.selects RX3 yX3_placeIn yX3_placeIn, Cond.code yX3_placeIn cX3_placeIn 4 (some .int), Cond.fieldLink RX3 19 "TwoTierCacheModel" "lengths" "[I", Cond.fieldLink RX3 22 "TwoTierCacheModel" "pages" "[I", Cond.methodLink RX3 57 yX3_move, Cond.instanceMethod yX3_move, Cond.selects RX3 yX3_move yX3_move, Cond.code yX3_move cX3_move 4 none, Cond.methodLink RX3 46 yX3_takeOut, Cond.instanceMethod yX3_takeOut, Cond.selects RX3 yX3_takeOut yX3_takeOut, Cond.code yX3_takeOut cX3_takeOut 5 none, Cond.methodLink RX3 50 yX3_toHead, Cond.instanceMethod yX3_toHead, Cond.selects RX3 yX3_toHead yX3_toHead, Cond.code yX3_toHead cX3_toHead 4 none, Cond.methodLink RX3 71 yX3_makeRoom]
def wsX3_queues_r2 : List Cond := [Cond.instanceMethod yX3_makeRoom, Cond.selects RX3 yX3_makeRoom yX3_makeRoom, Cond.code yX3_makeRoom cX3_makeRoom 5 none, Cond.fieldLink RX3 13 "TwoTierCacheModel" "capacities" "[I", Cond.fieldLink RX3 65 "TwoTierCacheModel" "victim" "I", Cond.methodLink RX3 61 yX3_cutTail, Cond.instanceMethod yX3_cutTail, Cond.selects RX3 yX3_cutTail yX3_cutTail, Cond.code yX3_cutTail cX3_cutTail 2 (some .int)]
def wsX3_queues : List Cond := .code yX3_queues cX3_queues 5 (some .boolean) :: ((wsX3_queues_r1 ++ wsX3_queues_r2) ++ wsX30)
def wsX3_putOut : List Cond := .code yX3_putOut cX3_putOut 6 none :: ([.fieldLink RX3 19 "TwoTierCacheModel" "lengths" "[I", .fieldLink RX3 16 "TwoTierCacheModel" "goals" "[I", .fieldLink RX3 65 "TwoTierCacheModel" "victim" "I", .methodLink RX3 61 yX3_cutTail, .instanceMethod yX3_cutTail, .selects RX3 yX3_cutTail yX3_cutTail, .initialized RX3, .code yX3_cutTail cX3_cutTail 2 (some .int), .fieldLink RX3 22 "TwoTierCacheModel" "pages" "[I", .methodLink RX3 50 yX3_toHead, .instanceMethod yX3_toHead, .selects RX3 yX3_toHead yX3_toHead, .code yX3_toHead cX3_toHead 4 none] ++ wsX30)
def wsX3_greater : List Cond := .code yX3_greater cX3_greater 2 (some .int) :: ([])
def wsX3_back_r1 : List Cond := [Cond.fieldLink RX3 19 "TwoTierCacheModel" "lengths" "[I", Cond.fieldLink RX3 16 "TwoTierCacheModel" "goals" "[I", Cond.fieldLink RX3 13 "TwoTierCacheModel" "capacities" "[I", Cond.methodLink RX3 75 yX3_greater, Cond.static yX3_greater, Cond.initialized RX3, Cond.code yX3_greater cX3_greater 2 (some .int), Cond.methodLink RX3 78 yX3_putOut, Cond.instanceMethod yX3_putOut, Cond.selects RX3 yX3_putOut yX3_putOut, Cond.code yX3_putOut cX3_putOut 6 none, Cond.fieldLink RX3 65 "TwoTierCacheModel" "victim" "I", Cond.methodLink RX3 61 yX3_cutTail, Cond.instanceMethod yX3_cutTail, Cond.selects RX3 yX3_cutTail yX3_cutTail, Cond.code yX3_cutTail cX3_cutTail 2 (some .int), Cond.fieldLink RX3 22 "TwoTierCacheModel" "pages" "[I", Cond.methodLink RX3 50 yX3_toHead, Cond.instanceMethod yX3_toHead, Cond.selects RX3 yX3_toHead yX3_toHead, Cond.code yX3_toHead cX3_toHead 4 none, Cond.methodLink RX3 57 yX3_move, Cond.instanceMethod yX3_move, Cond.selects RX3 yX3_move yX3_move]
def wsX3_back_r2 : List Cond := [Cond.code yX3_move cX3_move 4 none, Cond.methodLink RX3 46 yX3_takeOut, Cond.instanceMethod yX3_takeOut, Cond.selects RX3 yX3_takeOut yX3_takeOut, Cond.code yX3_takeOut cX3_takeOut 5 none, Cond.methodLink RX3 42 yX3_placeIn, Cond.instanceMethod yX3_placeIn, Cond.selects RX3 yX3_placeIn yX3_placeIn, Cond.code yX3_placeIn cX3_placeIn 4 (some .int)]
def wsX3_back : List Cond := .code yX3_back cX3_back 8 none :: ((wsX3_back_r1 ++ wsX3_back_r2) ++ wsX30)
def wsX3_balanced_r1 : List Cond := [Cond.fieldLink RX3 13 "TwoTierCacheModel" "capacities" "[I", Cond.fieldLink RX3 19 "TwoTierCacheModel" "lengths" "[I", Cond.fieldLink RX3 65 "TwoTierCacheModel" "victim" "I", Cond.methodLink RX3 53 yX3_isIn, Cond.instanceMethod yX3_isIn, Cond.selects RX3 yX3_isIn yX3_isIn, Cond.initialized RX3, Cond.code yX3_isIn cX3_isIn 3 (some .boolean), Cond.methodLink RX3 42 yX3_placeIn, Cond.instanceMethod yX3_placeIn, Cond.selects RX3 yX3_placeIn yX3_placeIn, Cond.code yX3_placeIn cX3_placeIn 4 (some .int), Cond.fieldLink RX3 22 "TwoTierCacheModel" "pages" "[I", Cond.methodLink RX3 57 yX3_move, Cond.instanceMethod yX3_move, Cond.selects RX3 yX3_move yX3_move, Cond.code yX3_move cX3_move 4 none, Cond.methodLink RX3 46 yX3_takeOut, Cond.instanceMethod yX3_takeOut, Cond.selects RX3 yX3_takeOut yX3_takeOut, Cond.code yX3_takeOut cX3_takeOut 5 none, Cond.methodLink RX3 50 yX3_toHead, Cond.instanceMethod yX3_toHead, Cond.selects RX3 yX3_toHead yX3_toHead]
def wsX3_balanced_r2 : List Cond := [Cond.code yX3_toHead cX3_toHead 4 none, Cond.methodLink RX3 82 yX3_back, Cond.instanceMethod yX3_back, Cond.selects RX3 yX3_back yX3_back, Cond.code yX3_back cX3_back 8 none, Cond.fieldLink RX3 16 "TwoTierCacheModel" "goals" "[I", Cond.methodLink RX3 75 yX3_greater, Cond.static yX3_greater, Cond.code yX3_greater cX3_greater 2 (some .int), Cond.methodLink RX3 78 yX3_putOut, Cond.instanceMethod yX3_putOut, Cond.selects RX3 yX3_putOut yX3_putOut, Cond.code yX3_putOut cX3_putOut 6 none, Cond.methodLink RX3 61 yX3_cutTail, Cond.instanceMethod yX3_cutTail, Cond.selects RX3 yX3_cutTail yX3_cutTail, Cond.code yX3_cutTail cX3_cutTail 2 (some .int)]
def wsX3_balanced : List Cond := .code yX3_balanced cX3_balanced 7 (some .boolean) :: ((wsX3_balanced_r1 ++ wsX3_balanced_r2) ++ wsX30)
def wsX3_touch_r1 : List Cond := [Cond.fieldLink RX3 65 "TwoTierCacheModel" "victim" "I", Cond.fieldLink RX3 7 "TwoTierCacheModel" "policies" "[I", Cond.fieldLink RX3 32 "TwoTierCacheModel" "counts" "[I", Cond.methodLink RX3 86 yX3_recent, Cond.instanceMethod yX3_recent, Cond.selects RX3 yX3_recent yX3_recent, Cond.initialized RX3, Cond.code yX3_recent cX3_recent 4 (some .boolean), Cond.fieldLink RX3 19 "TwoTierCacheModel" "lengths" "[I", Cond.fieldLink RX3 13 "TwoTierCacheModel" "capacities" "[I", Cond.methodLink RX3 53 yX3_isIn, Cond.instanceMethod yX3_isIn, Cond.selects RX3 yX3_isIn yX3_isIn, Cond.code yX3_isIn cX3_isIn 3 (some .boolean), Cond.methodLink RX3 42 yX3_placeIn, Cond.instanceMethod yX3_placeIn, Cond.selects RX3 yX3_placeIn yX3_placeIn, Cond.code yX3_placeIn cX3_placeIn 4 (some .int), Cond.fieldLink RX3 22 "TwoTierCacheModel" "pages" "[I", Cond.methodLink RX3 57 yX3_move, Cond.instanceMethod yX3_move, Cond.selects RX3 yX3_move yX3_move, Cond.code yX3_move cX3_move 4 none, Cond.methodLink RX3 46 yX3_takeOut]
def wsX3_touch_r2 : List Cond := [Cond.instanceMethod yX3_takeOut, Cond.selects RX3 yX3_takeOut yX3_takeOut, Cond.code yX3_takeOut cX3_takeOut 5 none, Cond.methodLink RX3 50 yX3_toHead, Cond.instanceMethod yX3_toHead, Cond.selects RX3 yX3_toHead yX3_toHead, Cond.code yX3_toHead cX3_toHead 4 none, Cond.methodLink RX3 61 yX3_cutTail, Cond.instanceMethod yX3_cutTail, Cond.selects RX3 yX3_cutTail yX3_cutTail, Cond.code yX3_cutTail cX3_cutTail 2 (some .int), Cond.methodLink RX3 89 yX3_clock, Cond.instanceMethod yX3_clock, Cond.selects RX3 yX3_clock yX3_clock, Cond.code yX3_clock cX3_clock 5 (some .boolean), Cond.fieldLink RX3 25 "TwoTierCacheModel" "marks" "[Z", Cond.methodLink RX3 68 yX3_toTail, Cond.instanceMethod yX3_toTail, Cond.selects RX3 yX3_toTail yX3_toTail, Cond.code yX3_toTail cX3_toTail 3 none, Cond.methodLink RX3 92 yX3_queues, Cond.instanceMethod yX3_queues, Cond.selects RX3 yX3_queues yX3_queues, Cond.code yX3_queues cX3_queues 5 (some .boolean)]
def wsX3_touch_r3 : List Cond := [Cond.methodLink RX3 71 yX3_makeRoom, Cond.instanceMethod yX3_makeRoom, Cond.selects RX3 yX3_makeRoom yX3_makeRoom, Cond.code yX3_makeRoom cX3_makeRoom 5 none, Cond.methodLink RX3 95 yX3_balanced, Cond.instanceMethod yX3_balanced, Cond.selects RX3 yX3_balanced yX3_balanced, Cond.code yX3_balanced cX3_balanced 7 (some .boolean), Cond.methodLink RX3 82 yX3_back, Cond.instanceMethod yX3_back, Cond.selects RX3 yX3_back yX3_back, Cond.code yX3_back cX3_back 8 none, Cond.fieldLink RX3 16 "TwoTierCacheModel" "goals" "[I", Cond.methodLink RX3 75 yX3_greater, Cond.static yX3_greater, Cond.code yX3_greater cX3_greater 2 (some .int), Cond.methodLink RX3 78 yX3_putOut, Cond.instanceMethod yX3_putOut, Cond.selects RX3 yX3_putOut yX3_putOut, Cond.code yX3_putOut cX3_putOut 6 none]
def wsX3_touch : List Cond := .code yX3_touch cX3_touch 5 (some .boolean) :: ((wsX3_touch_r1 ++ (wsX3_touch_r2 ++ wsX3_touch_r3)) ++ wsX30)
def wsX3_dries : List Cond := .code yX3_dries cX3_dries 4 (some .boolean) :: ([.fieldLink RX3 29 "TwoTierCacheModel" "wet" "[Z", .fieldLink RX3 32 "TwoTierCacheModel" "counts" "[I"] ++ wsX30)
def wsX3_askLower_r1 : List Cond := [Cond.fieldLink RX3 35 "TwoTierCacheModel" "reads" "I", Cond.fieldLink RX3 65 "TwoTierCacheModel" "victim" "I", Cond.fieldLink RX3 39 "TwoTierCacheModel" "writes" "I", Cond.fieldLink RX3 29 "TwoTierCacheModel" "wet" "[Z", Cond.methodLink RX3 98 yX3_touch, Cond.instanceMethod yX3_touch, Cond.selects RX3 yX3_touch yX3_touch, Cond.initialized RX3, Cond.code yX3_touch cX3_touch 5 (some .boolean), Cond.fieldLink RX3 7 "TwoTierCacheModel" "policies" "[I", Cond.fieldLink RX3 32 "TwoTierCacheModel" "counts" "[I", Cond.methodLink RX3 86 yX3_recent, Cond.instanceMethod yX3_recent, Cond.selects RX3 yX3_recent yX3_recent, Cond.code yX3_recent cX3_recent 4 (some .boolean), Cond.fieldLink RX3 19 "TwoTierCacheModel" "lengths" "[I", Cond.fieldLink RX3 13 "TwoTierCacheModel" "capacities" "[I", Cond.methodLink RX3 53 yX3_isIn, Cond.instanceMethod yX3_isIn, Cond.selects RX3 yX3_isIn yX3_isIn, Cond.code yX3_isIn cX3_isIn 3 (some .boolean), Cond.methodLink RX3 42 yX3_placeIn, Cond.instanceMethod yX3_placeIn, Cond.selects RX3 yX3_placeIn yX3_placeIn]
def wsX3_askLower_r2 : List Cond := [Cond.code yX3_placeIn cX3_placeIn 4 (some .int), Cond.fieldLink RX3 22 "TwoTierCacheModel" "pages" "[I", Cond.methodLink RX3 57 yX3_move, Cond.instanceMethod yX3_move, Cond.selects RX3 yX3_move yX3_move, Cond.code yX3_move cX3_move 4 none, Cond.methodLink RX3 46 yX3_takeOut, Cond.instanceMethod yX3_takeOut, Cond.selects RX3 yX3_takeOut yX3_takeOut, Cond.code yX3_takeOut cX3_takeOut 5 none, Cond.methodLink RX3 50 yX3_toHead, Cond.instanceMethod yX3_toHead, Cond.selects RX3 yX3_toHead yX3_toHead, Cond.code yX3_toHead cX3_toHead 4 none, Cond.methodLink RX3 61 yX3_cutTail, Cond.instanceMethod yX3_cutTail, Cond.selects RX3 yX3_cutTail yX3_cutTail, Cond.code yX3_cutTail cX3_cutTail 2 (some .int), Cond.methodLink RX3 89 yX3_clock, Cond.instanceMethod yX3_clock, Cond.selects RX3 yX3_clock yX3_clock, Cond.code yX3_clock cX3_clock 5 (some .boolean), Cond.fieldLink RX3 25 "TwoTierCacheModel" "marks" "[Z", Cond.methodLink RX3 68 yX3_toTail]
def wsX3_askLower_r3 : List Cond := [Cond.instanceMethod yX3_toTail, Cond.selects RX3 yX3_toTail yX3_toTail, Cond.code yX3_toTail cX3_toTail 3 none, Cond.methodLink RX3 92 yX3_queues, Cond.instanceMethod yX3_queues, Cond.selects RX3 yX3_queues yX3_queues, Cond.code yX3_queues cX3_queues 5 (some .boolean), Cond.methodLink RX3 71 yX3_makeRoom, Cond.instanceMethod yX3_makeRoom, Cond.selects RX3 yX3_makeRoom yX3_makeRoom, Cond.code yX3_makeRoom cX3_makeRoom 5 none, Cond.methodLink RX3 95 yX3_balanced, Cond.instanceMethod yX3_balanced, Cond.selects RX3 yX3_balanced yX3_balanced, Cond.code yX3_balanced cX3_balanced 7 (some .boolean), Cond.methodLink RX3 82 yX3_back, Cond.instanceMethod yX3_back, Cond.selects RX3 yX3_back yX3_back, Cond.code yX3_back cX3_back 8 none, Cond.fieldLink RX3 16 "TwoTierCacheModel" "goals" "[I", Cond.methodLink RX3 75 yX3_greater, Cond.static yX3_greater, Cond.code yX3_greater cX3_greater 2 (some .int), Cond.methodLink RX3 78 yX3_putOut]
def wsX3_askLower_r4 : List Cond := [Cond.instanceMethod yX3_putOut, Cond.selects RX3 yX3_putOut yX3_putOut, Cond.code yX3_putOut cX3_putOut 6 none, Cond.methodLink RX3 101 yX3_dries, Cond.instanceMethod yX3_dries, Cond.selects RX3 yX3_dries yX3_dries, Cond.code yX3_dries cX3_dries 4 (some .boolean)]
def wsX3_askLower : List Cond := .code yX3_askLower cX3_askLower 4 (some .boolean) :: ((wsX3_askLower_r1 ++ (wsX3_askLower_r2 ++ (wsX3_askLower_r3 ++ wsX3_askLower_r4))) ++ wsX30)
def wsX3_access_r1 : List Cond := [Cond.fieldLink RX3 65 "TwoTierCacheModel" "victim" "I", Cond.fieldLink RX3 29 "TwoTierCacheModel" "wet" "[Z", Cond.methodLink RX3 104 yX3_isPage, Cond.static yX3_isPage, Cond.initialized RX3, Cond.code yX3_isPage cX3_isPage 1 (some .boolean), Cond.methodLink RX3 98 yX3_touch, Cond.instanceMethod yX3_touch, Cond.selects RX3 yX3_touch yX3_touch, Cond.code yX3_touch cX3_touch 5 (some .boolean), Cond.fieldLink RX3 7 "TwoTierCacheModel" "policies" "[I", Cond.fieldLink RX3 32 "TwoTierCacheModel" "counts" "[I", Cond.methodLink RX3 86 yX3_recent, Cond.instanceMethod yX3_recent, Cond.selects RX3 yX3_recent yX3_recent, Cond.code yX3_recent cX3_recent 4 (some .boolean), Cond.fieldLink RX3 19 "TwoTierCacheModel" "lengths" "[I", Cond.fieldLink RX3 13 "TwoTierCacheModel" "capacities" "[I", Cond.methodLink RX3 53 yX3_isIn, Cond.instanceMethod yX3_isIn, Cond.selects RX3 yX3_isIn yX3_isIn, Cond.code yX3_isIn cX3_isIn 3 (some .boolean), Cond.methodLink RX3 42 yX3_placeIn, Cond.instanceMethod yX3_placeIn]
def wsX3_access_r2 : List Cond := [Cond.selects RX3 yX3_placeIn yX3_placeIn, Cond.code yX3_placeIn cX3_placeIn 4 (some .int), Cond.fieldLink RX3 22 "TwoTierCacheModel" "pages" "[I", Cond.methodLink RX3 57 yX3_move, Cond.instanceMethod yX3_move, Cond.selects RX3 yX3_move yX3_move, Cond.code yX3_move cX3_move 4 none, Cond.methodLink RX3 46 yX3_takeOut, Cond.instanceMethod yX3_takeOut, Cond.selects RX3 yX3_takeOut yX3_takeOut, Cond.code yX3_takeOut cX3_takeOut 5 none, Cond.methodLink RX3 50 yX3_toHead, Cond.instanceMethod yX3_toHead, Cond.selects RX3 yX3_toHead yX3_toHead, Cond.code yX3_toHead cX3_toHead 4 none, Cond.methodLink RX3 61 yX3_cutTail, Cond.instanceMethod yX3_cutTail, Cond.selects RX3 yX3_cutTail yX3_cutTail, Cond.code yX3_cutTail cX3_cutTail 2 (some .int), Cond.methodLink RX3 89 yX3_clock, Cond.instanceMethod yX3_clock, Cond.selects RX3 yX3_clock yX3_clock, Cond.code yX3_clock cX3_clock 5 (some .boolean), Cond.fieldLink RX3 25 "TwoTierCacheModel" "marks" "[Z"]
def wsX3_access_r3 : List Cond := [Cond.methodLink RX3 68 yX3_toTail, Cond.instanceMethod yX3_toTail, Cond.selects RX3 yX3_toTail yX3_toTail, Cond.code yX3_toTail cX3_toTail 3 none, Cond.methodLink RX3 92 yX3_queues, Cond.instanceMethod yX3_queues, Cond.selects RX3 yX3_queues yX3_queues, Cond.code yX3_queues cX3_queues 5 (some .boolean), Cond.methodLink RX3 71 yX3_makeRoom, Cond.instanceMethod yX3_makeRoom, Cond.selects RX3 yX3_makeRoom yX3_makeRoom, Cond.code yX3_makeRoom cX3_makeRoom 5 none, Cond.methodLink RX3 95 yX3_balanced, Cond.instanceMethod yX3_balanced, Cond.selects RX3 yX3_balanced yX3_balanced, Cond.code yX3_balanced cX3_balanced 7 (some .boolean), Cond.methodLink RX3 82 yX3_back, Cond.instanceMethod yX3_back, Cond.selects RX3 yX3_back yX3_back, Cond.code yX3_back cX3_back 8 none, Cond.fieldLink RX3 16 "TwoTierCacheModel" "goals" "[I", Cond.methodLink RX3 75 yX3_greater, Cond.static yX3_greater, Cond.code yX3_greater cX3_greater 2 (some .int)]
def wsX3_access_r4 : List Cond := [Cond.methodLink RX3 78 yX3_putOut, Cond.instanceMethod yX3_putOut, Cond.selects RX3 yX3_putOut yX3_putOut, Cond.code yX3_putOut cX3_putOut 6 none, Cond.methodLink RX3 108 yX3_askLower, Cond.instanceMethod yX3_askLower, Cond.selects RX3 yX3_askLower yX3_askLower, Cond.code yX3_askLower cX3_askLower 4 (some .boolean), Cond.fieldLink RX3 35 "TwoTierCacheModel" "reads" "I", Cond.fieldLink RX3 39 "TwoTierCacheModel" "writes" "I", Cond.methodLink RX3 101 yX3_dries, Cond.instanceMethod yX3_dries, Cond.selects RX3 yX3_dries yX3_dries, Cond.code yX3_dries cX3_dries 4 (some .boolean)]
def wsX3_access : List Cond := .code yX3_access cX3_access 6 (some .int) :: ((wsX3_access_r1 ++ (wsX3_access_r2 ++ (wsX3_access_r3 ++ wsX3_access_r4))) ++ wsX30)
def wsX3_flush_r1 : List Cond := [Cond.fieldLink RX3 39 "TwoTierCacheModel" "writes" "I", Cond.fieldLink RX3 29 "TwoTierCacheModel" "wet" "[Z", Cond.methodLink RX3 108 yX3_askLower, Cond.instanceMethod yX3_askLower, Cond.selects RX3 yX3_askLower yX3_askLower, Cond.initialized RX3, Cond.code yX3_askLower cX3_askLower 4 (some .boolean), Cond.fieldLink RX3 35 "TwoTierCacheModel" "reads" "I", Cond.fieldLink RX3 65 "TwoTierCacheModel" "victim" "I", Cond.methodLink RX3 98 yX3_touch, Cond.instanceMethod yX3_touch, Cond.selects RX3 yX3_touch yX3_touch, Cond.code yX3_touch cX3_touch 5 (some .boolean), Cond.fieldLink RX3 7 "TwoTierCacheModel" "policies" "[I", Cond.fieldLink RX3 32 "TwoTierCacheModel" "counts" "[I", Cond.methodLink RX3 86 yX3_recent, Cond.instanceMethod yX3_recent, Cond.selects RX3 yX3_recent yX3_recent, Cond.code yX3_recent cX3_recent 4 (some .boolean), Cond.fieldLink RX3 19 "TwoTierCacheModel" "lengths" "[I", Cond.fieldLink RX3 13 "TwoTierCacheModel" "capacities" "[I", Cond.methodLink RX3 53 yX3_isIn, Cond.instanceMethod yX3_isIn, Cond.selects RX3 yX3_isIn yX3_isIn]
def wsX3_flush_r2 : List Cond := [Cond.code yX3_isIn cX3_isIn 3 (some .boolean), Cond.methodLink RX3 42 yX3_placeIn, Cond.instanceMethod yX3_placeIn, Cond.selects RX3 yX3_placeIn yX3_placeIn, Cond.code yX3_placeIn cX3_placeIn 4 (some .int), Cond.fieldLink RX3 22 "TwoTierCacheModel" "pages" "[I", Cond.methodLink RX3 57 yX3_move, Cond.instanceMethod yX3_move, Cond.selects RX3 yX3_move yX3_move, Cond.code yX3_move cX3_move 4 none, Cond.methodLink RX3 46 yX3_takeOut, Cond.instanceMethod yX3_takeOut, Cond.selects RX3 yX3_takeOut yX3_takeOut, Cond.code yX3_takeOut cX3_takeOut 5 none, Cond.methodLink RX3 50 yX3_toHead, Cond.instanceMethod yX3_toHead, Cond.selects RX3 yX3_toHead yX3_toHead, Cond.code yX3_toHead cX3_toHead 4 none, Cond.methodLink RX3 61 yX3_cutTail, Cond.instanceMethod yX3_cutTail, Cond.selects RX3 yX3_cutTail yX3_cutTail, Cond.code yX3_cutTail cX3_cutTail 2 (some .int), Cond.methodLink RX3 89 yX3_clock, Cond.instanceMethod yX3_clock]
def wsX3_flush_r3 : List Cond := [Cond.selects RX3 yX3_clock yX3_clock, Cond.code yX3_clock cX3_clock 5 (some .boolean), Cond.fieldLink RX3 25 "TwoTierCacheModel" "marks" "[Z", Cond.methodLink RX3 68 yX3_toTail, Cond.instanceMethod yX3_toTail, Cond.selects RX3 yX3_toTail yX3_toTail, Cond.code yX3_toTail cX3_toTail 3 none, Cond.methodLink RX3 92 yX3_queues, Cond.instanceMethod yX3_queues, Cond.selects RX3 yX3_queues yX3_queues, Cond.code yX3_queues cX3_queues 5 (some .boolean), Cond.methodLink RX3 71 yX3_makeRoom, Cond.instanceMethod yX3_makeRoom, Cond.selects RX3 yX3_makeRoom yX3_makeRoom, Cond.code yX3_makeRoom cX3_makeRoom 5 none, Cond.methodLink RX3 95 yX3_balanced, Cond.instanceMethod yX3_balanced, Cond.selects RX3 yX3_balanced yX3_balanced, Cond.code yX3_balanced cX3_balanced 7 (some .boolean), Cond.methodLink RX3 82 yX3_back, Cond.instanceMethod yX3_back, Cond.selects RX3 yX3_back yX3_back, Cond.code yX3_back cX3_back 8 none, Cond.fieldLink RX3 16 "TwoTierCacheModel" "goals" "[I"]
def wsX3_flush_r4 : List Cond := [Cond.methodLink RX3 75 yX3_greater, Cond.static yX3_greater, Cond.code yX3_greater cX3_greater 2 (some .int), Cond.methodLink RX3 78 yX3_putOut, Cond.instanceMethod yX3_putOut, Cond.selects RX3 yX3_putOut yX3_putOut, Cond.code yX3_putOut cX3_putOut 6 none, Cond.methodLink RX3 101 yX3_dries, Cond.instanceMethod yX3_dries, Cond.selects RX3 yX3_dries yX3_dries, Cond.code yX3_dries cX3_dries 4 (some .boolean)]
def wsX3_flush : List Cond := .code yX3_flush cX3_flush 3 (some .int) :: ((wsX3_flush_r1 ++ (wsX3_flush_r2 ++ (wsX3_flush_r3 ++ wsX3_flush_r4))) ++ wsX30)
def wsX3_resident : List Cond := .code yX3_resident cX3_resident 5 (some .boolean) :: ([.fieldLink RX3 7 "TwoTierCacheModel" "policies" "[I", .methodLink RX3 112 yX3_isTier, .static yX3_isTier, .initialized RX3, .code yX3_isTier cX3_isTier 1 (some .boolean), .methodLink RX3 104 yX3_isPage, .static yX3_isPage, .code yX3_isPage cX3_isPage 1 (some .boolean), .methodLink RX3 53 yX3_isIn, .instanceMethod yX3_isIn, .selects RX3 yX3_isIn yX3_isIn, .code yX3_isIn cX3_isIn 3 (some .boolean), .methodLink RX3 42 yX3_placeIn, .instanceMethod yX3_placeIn, .selects RX3 yX3_placeIn yX3_placeIn, .code yX3_placeIn cX3_placeIn 4 (some .int), .fieldLink RX3 19 "TwoTierCacheModel" "lengths" "[I", .fieldLink RX3 22 "TwoTierCacheModel" "pages" "[I"] ++ wsX30)
def wsX3_dirty : List Cond := .code yX3_dirty cX3_dirty 3 (some .boolean) :: ([.fieldLink RX3 29 "TwoTierCacheModel" "wet" "[Z", .methodLink RX3 112 yX3_isTier, .static yX3_isTier, .initialized RX3, .code yX3_isTier cX3_isTier 1 (some .boolean), .methodLink RX3 104 yX3_isPage, .static yX3_isPage, .code yX3_isPage cX3_isPage 1 (some .boolean)] ++ wsX30)
def wsX3_marked : List Cond := .code yX3_marked cX3_marked 3 (some .boolean) :: ([.fieldLink RX3 7 "TwoTierCacheModel" "policies" "[I", .fieldLink RX3 25 "TwoTierCacheModel" "marks" "[Z", .methodLink RX3 112 yX3_isTier, .static yX3_isTier, .initialized RX3, .code yX3_isTier cX3_isTier 1 (some .boolean), .methodLink RX3 104 yX3_isPage, .static yX3_isPage, .code yX3_isPage cX3_isPage 1 (some .boolean)] ++ wsX30)
def wsX3_row : List Cond := .code yX3_row cX3_row 4 (some .int) :: ([.fieldLink RX3 19 "TwoTierCacheModel" "lengths" "[I", .fieldLink RX3 22 "TwoTierCacheModel" "pages" "[I", .methodLink RX3 112 yX3_isTier, .static yX3_isTier, .initialized RX3, .code yX3_isTier cX3_isTier 1 (some .boolean)] ++ wsX30)
def wsX3_goal : List Cond := .code yX3_goal cX3_goal 2 (some .int) :: ([.fieldLink RX3 7 "TwoTierCacheModel" "policies" "[I", .fieldLink RX3 16 "TwoTierCacheModel" "goals" "[I", .methodLink RX3 112 yX3_isTier, .static yX3_isTier, .initialized RX3, .code yX3_isTier cX3_isTier 1 (some .boolean)] ++ wsX30)
def wsX3_count : List Cond := .code yX3_count cX3_count 3 (some .int) :: ([.fieldLink RX3 32 "TwoTierCacheModel" "counts" "[I", .methodLink RX3 112 yX3_isTier, .static yX3_isTier, .initialized RX3, .code yX3_isTier cX3_isTier 1 (some .boolean)] ++ wsX30)
def wsX3_reads : List Cond := .code yX3_reads cX3_reads 1 (some .int) :: ([.fieldLink RX3 35 "TwoTierCacheModel" "reads" "I"] ++ wsX30)
def wsX3_writes : List Cond := .code yX3_writes cX3_writes 1 (some .int) :: ([.fieldLink RX3 39 "TwoTierCacheModel" "writes" "I"] ++ wsX30)
def wsJ9_max_7cf53 : List Cond := .code yJ9_max_7cf53 cJ9_max_7cf53 2 (some .int) :: ([])
def wsJ9_min_7cf53 : List Cond := .code yJ9_min_7cf53 cJ9_min_7cf53 2 (some .int) :: ([])
def wsL_law_r1 : List Cond := [Cond.classLink RL 7 RX2, Cond.instantiable RX2 4, Cond.initialized RX2, Cond.classLink RL 10 RX3, Cond.instantiable RX3 11, Cond.initialized RX3, Cond.methodLink RL 9 yX2_init, Cond.instanceMethod yX2_init, Cond.code yX2_init cX2_init 1 none, Cond.methodLink RX2 1 objectInit, Cond.instanceMethod objectInit, Cond.code objectInit ⟨#[0xb1]⟩ 1 none, Cond.classLink RX2 7 RX1, Cond.instantiable RX1 9, Cond.initialized RX1, Cond.fieldLink RX2 14 "TwoTierCache" "upper" "LTwoTierCache$Tier;", Cond.fieldLink RX2 18 "TwoTierCache" "lower" "LTwoTierCache$Tier;", Cond.methodLink RX2 11 yX1_init, Cond.instanceMethod yX1_init, Cond.code yX1_init cX1_init 4 none, Cond.methodLink RX1 3 objectInit, Cond.classLink RX1 11 RX0, Cond.fieldLink RX1 13 "TwoTierCache$Tier" "rows" "[LTwoTierCache$PageRow;", Cond.instantiable RX0 2]
def wsL_law_r2 : List Cond := [Cond.initialized RX0, Cond.fieldLink RX1 18 "TwoTierCache$Tier" "policy" "I", Cond.fieldLink RX1 22 "TwoTierCache$Tier" "capacity" "I", Cond.instanceMethod yX0_init, Cond.code yX0_init cX0_init 1 none, Cond.methodLink RX0 3 objectInit, Cond.arrayClass .int, Cond.fieldLink RX0 11 "TwoTierCache$PageRow" "pages" "[I", Cond.methodLink RL 12 yX3_init, Cond.instanceMethod yX3_init, Cond.code yX3_init cX3_init 1 none, Cond.methodLink RX3 1 objectInit, Cond.fieldLink RX3 7 "TwoTierCacheModel" "policies" "[I", Cond.fieldLink RX3 13 "TwoTierCacheModel" "capacities" "[I", Cond.fieldLink RX3 16 "TwoTierCacheModel" "goals" "[I", Cond.fieldLink RX3 19 "TwoTierCacheModel" "lengths" "[I", Cond.fieldLink RX3 22 "TwoTierCacheModel" "pages" "[I", Cond.arrayClass .boolean, Cond.fieldLink RX3 25 "TwoTierCacheModel" "marks" "[Z", Cond.fieldLink RX3 29 "TwoTierCacheModel" "wet" "[Z", Cond.fieldLink RX3 32 "TwoTierCacheModel" "counts" "[I", Cond.methodLink RL 13 yX2_begin, Cond.instanceMethod yX2_begin, Cond.selects RX2 yX2_begin yX2_begin]
def wsL_law_r3 : List Cond := [Cond.code yX2_begin cX2_begin 5 (some .boolean), Cond.fieldLink RX2 31 "TwoTierCache" "pagesRead" "I", Cond.fieldLink RX2 35 "TwoTierCache" "pagesWritten" "I", Cond.methodLink RX2 21 yX2_isPolicy, Cond.static yX2_isPolicy, Cond.code yX2_isPolicy cX2_isPolicy 1 (some .boolean), Cond.methodLink RX2 25 yX2_isCapacity, Cond.static yX2_isCapacity, Cond.code yX2_isCapacity cX2_isCapacity 1 (some .boolean), Cond.methodLink RX2 28 yX1_restart, Cond.instanceMethod yX1_restart, Cond.selects RX1 yX1_restart yX1_restart, Cond.code yX1_restart cX1_restart 4 none, Cond.fieldLink RX1 28 "TwoTierCache$Tier" "goal" "I", Cond.fieldLink RX1 31 "TwoTierCache$Tier" "dirtyPages" "J", Cond.fieldLink RX1 35 "TwoTierCache$Tier" "markedPages" "J", Cond.fieldLink RX1 38 "TwoTierCache$Tier" "hits" "I", Cond.fieldLink RX1 41 "TwoTierCache$Tier" "misses" "I", Cond.fieldLink RX1 44 "TwoTierCache$Tier" "dirtyVictims" "I", Cond.methodLink RX1 25 yX0_clear, Cond.instanceMethod yX0_clear, Cond.selects RX0 yX0_clear yX0_clear, Cond.code yX0_clear cX0_clear 1 none, Cond.fieldLink RX0 15 "TwoTierCache$PageRow" "size" "I"]
def wsL_law_r4 : List Cond := [Cond.methodLink RL 17 yX3_begin, Cond.instanceMethod yX3_begin, Cond.selects RX3 yX3_begin yX3_begin, Cond.code yX3_begin cX3_begin 7 (some .boolean), Cond.fieldLink RX3 35 "TwoTierCacheModel" "reads" "I", Cond.fieldLink RX3 39 "TwoTierCacheModel" "writes" "I", Cond.methodLink RL 18 yX2_access, Cond.instanceMethod yX2_access, Cond.selects RX2 yX2_access yX2_access, Cond.code yX2_access cX2_access 6 (some .int), Cond.methodLink RX2 38 yX2_isPage, Cond.static yX2_isPage, Cond.code yX2_isPage cX2_isPage 1 (some .boolean), Cond.methodLink RX2 41 yX1_holds, Cond.instanceMethod yX1_holds, Cond.selects RX1 yX1_holds yX1_holds, Cond.code yX1_holds cX1_holds 3 (some .boolean), Cond.methodLink RX1 47 yX0_has, Cond.instanceMethod yX0_has, Cond.selects RX0 yX0_has yX0_has, Cond.code yX0_has cX0_has 2 (some .boolean), Cond.methodLink RX0 19 yX0_placeOf, Cond.instanceMethod yX0_placeOf, Cond.selects RX0 yX0_placeOf yX0_placeOf]
def wsL_law_r5 : List Cond := [Cond.code yX0_placeOf cX0_placeOf 3 (some .int), Cond.methodLink RX2 44 yX1_touch, Cond.instanceMethod yX1_touch, Cond.selects RX1 yX1_touch yX1_touch, Cond.code yX1_touch cX1_touch 2 (some .int), Cond.methodLink RX1 67 yX1_holds, Cond.methodLink RX1 70 yX1_touchRecent, Cond.instanceMethod yX1_touchRecent, Cond.selects RX1 yX1_touchRecent yX1_touchRecent, Cond.code yX1_touchRecent cX1_touchRecent 4 (some .int), Cond.methodLink RX1 82 yX0_remove, Cond.instanceMethod yX0_remove, Cond.selects RX0 yX0_remove yX0_remove, Cond.code yX0_remove cX0_remove 3 (some .boolean), Cond.methodLink RX0 23 arraycopyName, Cond.native arraycopyName, Cond.static arraycopyName, Cond.initialized "java/lang/System", Cond.methodLink RX1 85 yX0_size, Cond.instanceMethod yX0_size, Cond.selects RX0 yX0_size yX0_size, Cond.code yX0_size cX0_size 1 (some .int), Cond.methodLink RX1 89 yX0_takeTail, Cond.instanceMethod yX0_takeTail]
def wsL_law_r6 : List Cond := [Cond.selects RX0 yX0_takeTail yX0_takeTail, Cond.code yX0_takeTail cX0_takeTail 1 (some .int), Cond.methodLink RX1 92 yX0_addHead, Cond.instanceMethod yX0_addHead, Cond.selects RX0 yX0_addHead yX0_addHead, Cond.code yX0_addHead cX0_addHead 2 none, Cond.methodLink RX1 73 yX1_touchClock, Cond.instanceMethod yX1_touchClock, Cond.selects RX1 yX1_touchClock yX1_touchClock, Cond.code yX1_touchClock cX1_touchClock 4 (some .int), Cond.methodLink RX1 51 yX1_bit, Cond.static yX1_bit, Cond.code yX1_bit cX1_bit 1 (some .long), Cond.methodLink RX1 96 yX1_spareMarked, Cond.instanceMethod yX1_spareMarked, Cond.selects RX1 yX1_spareMarked yX1_spareMarked, Cond.code yX1_spareMarked cX1_spareMarked 5 none, Cond.constantLong RX1 62 (-1), Cond.methodLink RX1 55 yX0_at, Cond.instanceMethod yX0_at, Cond.selects RX0 yX0_at yX0_at, Cond.code yX0_at cX0_at 2 (some .int), Cond.methodLink RX1 106 yX1_isMarked, Cond.instanceMethod yX1_isMarked]
def wsL_law_r7 : List Cond := [Cond.selects RX1 yX1_isMarked yX1_isMarked, Cond.code yX1_isMarked cX1_isMarked 2 (some .boolean), Cond.methodLink RX1 100 yX0_takeHead, Cond.instanceMethod yX0_takeHead, Cond.selects RX0 yX0_takeHead yX0_takeHead, Cond.code yX0_takeHead cX0_takeHead 2 (some .int), Cond.methodLink RX0 29 yX0_at, Cond.methodLink RX0 32 yX0_remove, Cond.methodLink RX1 103 yX0_addTail, Cond.instanceMethod yX0_addTail, Cond.selects RX0 yX0_addTail yX0_addTail, Cond.code yX0_addTail cX0_addTail 2 none, Cond.methodLink RX1 76 yX1_touchQueues, Cond.instanceMethod yX1_touchQueues, Cond.selects RX1 yX1_touchQueues yX1_touchQueues, Cond.code yX1_touchQueues cX1_touchQueues 7 (some .int), Cond.methodLink RX1 109 yX1_makeRoom, Cond.instanceMethod yX1_makeRoom, Cond.selects RX1 yX1_makeRoom yX1_makeRoom, Cond.code yX1_makeRoom cX1_makeRoom 5 (some .int), Cond.methodLink RX1 113 Lib.Math.max.name, Cond.static Lib.Math.max.name, Cond.initialized "java/lang/Math", Cond.code Lib.Math.max.name Lib.Math.max.code 2 (some .int)]
def wsL_law_r8 : List Cond := [Cond.methodLink RX1 79 yX1_touchBalanced, Cond.instanceMethod yX1_touchBalanced, Cond.selects RX1 yX1_touchBalanced yX1_touchBalanced, Cond.code yX1_touchBalanced cX1_touchBalanced 3 (some .int), Cond.methodLink RX1 123 Lib.Math.min.name, Cond.static Lib.Math.min.name, Cond.code Lib.Math.min.name Lib.Math.min.code 2 (some .int), Cond.methodLink RX1 119 yX1_goalStep, Cond.static yX1_goalStep, Cond.code yX1_goalStep cX1_goalStep 2 (some .int), Cond.methodLink RX1 126 yX1_comeBack, Cond.instanceMethod yX1_comeBack, Cond.selects RX1 yX1_comeBack yX1_comeBack, Cond.code yX1_comeBack cX1_comeBack 5 (some .int), Cond.methodLink RX1 133 yX1_putOut, Cond.instanceMethod yX1_putOut, Cond.selects RX1 yX1_putOut yX1_putOut, Cond.code yX1_putOut cX1_putOut 6 (some .int), Cond.methodLink RX1 130 yX1_makeRoomForNew, Cond.instanceMethod yX1_makeRoomForNew, Cond.selects RX1 yX1_makeRoomForNew yX1_makeRoomForNew, Cond.code yX1_makeRoomForNew cX1_makeRoomForNew 3 (some .int), Cond.methodLink RX2 48 yX2_askLower, Cond.instanceMethod yX2_askLower]
def wsL_law_r9 : List Cond := [Cond.selects RX2 yX2_askLower yX2_askLower, Cond.code yX2_askLower cX2_askLower 5 (some .boolean), Cond.methodLink RX2 52 yX1_cleanVictim, Cond.instanceMethod yX1_cleanVictim, Cond.selects RX1 yX1_cleanVictim yX1_cleanVictim, Cond.code yX1_cleanVictim cX1_cleanVictim 2 (some .boolean), Cond.methodLink RX1 64 yX1_clean, Cond.instanceMethod yX1_clean, Cond.selects RX1 yX1_clean yX1_clean, Cond.code yX1_clean cX1_clean 3 (some .boolean), Cond.methodLink RX1 59 yX1_isDirty, Cond.instanceMethod yX1_isDirty, Cond.selects RX1 yX1_isDirty yX1_isDirty, Cond.code yX1_isDirty cX1_isDirty 2 (some .boolean), Cond.methodLink RX2 55 yX1_soil, Cond.instanceMethod yX1_soil, Cond.selects RX1 yX1_soil yX1_soil, Cond.code yX1_soil cX1_soil 2 none, Cond.methodLink RL 22 yX3_access, Cond.instanceMethod yX3_access, Cond.selects RX3 yX3_access yX3_access, Cond.code yX3_access cX3_access 6 (some .int), Cond.fieldLink RX3 65 "TwoTierCacheModel" "victim" "I", Cond.methodLink RX3 104 yX3_isPage]
def wsL_law_r10 : List Cond := [Cond.static yX3_isPage, Cond.code yX3_isPage cX3_isPage 1 (some .boolean), Cond.methodLink RX3 98 yX3_touch, Cond.instanceMethod yX3_touch, Cond.selects RX3 yX3_touch yX3_touch, Cond.code yX3_touch cX3_touch 5 (some .boolean), Cond.methodLink RX3 86 yX3_recent, Cond.instanceMethod yX3_recent, Cond.selects RX3 yX3_recent yX3_recent, Cond.code yX3_recent cX3_recent 4 (some .boolean), Cond.methodLink RX3 53 yX3_isIn, Cond.instanceMethod yX3_isIn, Cond.selects RX3 yX3_isIn yX3_isIn, Cond.code yX3_isIn cX3_isIn 3 (some .boolean), Cond.methodLink RX3 42 yX3_placeIn, Cond.instanceMethod yX3_placeIn, Cond.selects RX3 yX3_placeIn yX3_placeIn, Cond.code yX3_placeIn cX3_placeIn 4 (some .int), Cond.methodLink RX3 57 yX3_move, Cond.instanceMethod yX3_move, Cond.selects RX3 yX3_move yX3_move, Cond.code yX3_move cX3_move 4 none, Cond.methodLink RX3 46 yX3_takeOut, Cond.instanceMethod yX3_takeOut]
def wsL_law_r11 : List Cond := [Cond.selects RX3 yX3_takeOut yX3_takeOut, Cond.code yX3_takeOut cX3_takeOut 5 none, Cond.methodLink RX3 50 yX3_toHead, Cond.instanceMethod yX3_toHead, Cond.selects RX3 yX3_toHead yX3_toHead, Cond.code yX3_toHead cX3_toHead 4 none, Cond.methodLink RX3 61 yX3_cutTail, Cond.instanceMethod yX3_cutTail, Cond.selects RX3 yX3_cutTail yX3_cutTail, Cond.code yX3_cutTail cX3_cutTail 2 (some .int), Cond.methodLink RX3 89 yX3_clock, Cond.instanceMethod yX3_clock, Cond.selects RX3 yX3_clock yX3_clock, Cond.code yX3_clock cX3_clock 5 (some .boolean), Cond.methodLink RX3 68 yX3_toTail, Cond.instanceMethod yX3_toTail, Cond.selects RX3 yX3_toTail yX3_toTail, Cond.code yX3_toTail cX3_toTail 3 none, Cond.methodLink RX3 92 yX3_queues, Cond.instanceMethod yX3_queues, Cond.selects RX3 yX3_queues yX3_queues, Cond.code yX3_queues cX3_queues 5 (some .boolean), Cond.methodLink RX3 71 yX3_makeRoom, Cond.instanceMethod yX3_makeRoom]
def wsL_law_r12 : List Cond := [Cond.selects RX3 yX3_makeRoom yX3_makeRoom, Cond.code yX3_makeRoom cX3_makeRoom 5 none, Cond.methodLink RX3 95 yX3_balanced, Cond.instanceMethod yX3_balanced, Cond.selects RX3 yX3_balanced yX3_balanced, Cond.code yX3_balanced cX3_balanced 7 (some .boolean), Cond.methodLink RX3 82 yX3_back, Cond.instanceMethod yX3_back, Cond.selects RX3 yX3_back yX3_back, Cond.code yX3_back cX3_back 8 none, Cond.methodLink RX3 75 yX3_greater, Cond.static yX3_greater, Cond.code yX3_greater cX3_greater 2 (some .int), Cond.methodLink RX3 78 yX3_putOut, Cond.instanceMethod yX3_putOut, Cond.selects RX3 yX3_putOut yX3_putOut, Cond.code yX3_putOut cX3_putOut 6 none, Cond.methodLink RX3 108 yX3_askLower, Cond.instanceMethod yX3_askLower, Cond.selects RX3 yX3_askLower yX3_askLower, Cond.code yX3_askLower cX3_askLower 4 (some .boolean), Cond.methodLink RX3 101 yX3_dries, Cond.instanceMethod yX3_dries, Cond.selects RX3 yX3_dries yX3_dries]
def wsL_law_r13 : List Cond := [Cond.code yX3_dries cX3_dries 4 (some .boolean), Cond.methodLink RL 23 yX2_flush, Cond.instanceMethod yX2_flush, Cond.selects RX2 yX2_flush yX2_flush, Cond.code yX2_flush cX2_flush 3 (some .int), Cond.methodLink RX2 59 yX1_clean, Cond.methodLink RL 27 yX3_flush, Cond.instanceMethod yX3_flush, Cond.selects RX3 yX3_flush yX3_flush, Cond.code yX3_flush cX3_flush 3 (some .int), Cond.methodLink RL 28 yX2_resident, Cond.instanceMethod yX2_resident, Cond.selects RX2 yX2_resident yX2_resident, Cond.code yX2_resident cX2_resident 4 (some .boolean), Cond.methodLink RX2 62 yX2_tierAt, Cond.instanceMethod yX2_tierAt, Cond.selects RX2 yX2_tierAt yX2_tierAt, Cond.code yX2_tierAt cX2_tierAt 2 (some (.object "TwoTierCache$Tier")), Cond.methodLink RL 32 yX3_resident, Cond.instanceMethod yX3_resident, Cond.selects RX3 yX3_resident yX3_resident, Cond.code yX3_resident cX3_resident 5 (some .boolean), Cond.methodLink RX3 112 yX3_isTier, Cond.static yX3_isTier]
def wsL_law_r14 : List Cond := [Cond.code yX3_isTier cX3_isTier 1 (some .boolean), Cond.methodLink RL 33 yX2_dirty, Cond.instanceMethod yX2_dirty, Cond.selects RX2 yX2_dirty yX2_dirty, Cond.code yX2_dirty cX2_dirty 4 (some .boolean), Cond.methodLink RX2 66 yX1_isDirty, Cond.methodLink RL 36 yX3_dirty, Cond.instanceMethod yX3_dirty, Cond.selects RX3 yX3_dirty yX3_dirty, Cond.code yX3_dirty cX3_dirty 3 (some .boolean), Cond.methodLink RL 37 yX2_marked, Cond.instanceMethod yX2_marked, Cond.selects RX2 yX2_marked yX2_marked, Cond.code yX2_marked cX2_marked 4 (some .boolean), Cond.methodLink RX2 69 yX1_isMarked, Cond.methodLink RL 40 yX3_marked, Cond.instanceMethod yX3_marked, Cond.selects RX3 yX3_marked yX3_marked, Cond.code yX3_marked cX3_marked 3 (some .boolean), Cond.methodLink RL 41 yX2_row, Cond.instanceMethod yX2_row, Cond.selects RX2 yX2_row yX2_row, Cond.code yX2_row cX2_row 5 (some .int), Cond.methodLink RX2 72 yX1_pageAt]
def wsL_law_r15 : List Cond := [Cond.instanceMethod yX1_pageAt, Cond.selects RX1 yX1_pageAt yX1_pageAt, Cond.code yX1_pageAt cX1_pageAt 3 (some .int), Cond.methodLink RL 45 yX3_row, Cond.instanceMethod yX3_row, Cond.selects RX3 yX3_row yX3_row, Cond.code yX3_row cX3_row 4 (some .int), Cond.methodLink RL 46 yX2_goal, Cond.instanceMethod yX2_goal, Cond.selects RX2 yX2_goal yX2_goal, Cond.code yX2_goal cX2_goal 3 (some .int), Cond.methodLink RX2 76 yX1_currentGoal, Cond.instanceMethod yX1_currentGoal, Cond.selects RX1 yX1_currentGoal yX1_currentGoal, Cond.code yX1_currentGoal cX1_currentGoal 1 (some .int), Cond.methodLink RL 50 yX3_goal, Cond.instanceMethod yX3_goal, Cond.selects RX3 yX3_goal yX3_goal, Cond.code yX3_goal cX3_goal 2 (some .int), Cond.methodLink RL 51 yX2_count, Cond.instanceMethod yX2_count, Cond.selects RX2 yX2_count yX2_count, Cond.code yX2_count cX2_count 4 (some .int), Cond.methodLink RX2 80 yX1_tally]
def wsL_law_r16 : List Cond := [Cond.instanceMethod yX1_tally, Cond.selects RX1 yX1_tally yX1_tally, Cond.code yX1_tally cX1_tally 2 (some .int), Cond.methodLink RL 55 yX3_count, Cond.instanceMethod yX3_count, Cond.selects RX3 yX3_count yX3_count, Cond.code yX3_count cX3_count 3 (some .int), Cond.methodLink RL 56 yX2_reads, Cond.instanceMethod yX2_reads, Cond.selects RX2 yX2_reads yX2_reads, Cond.code yX2_reads cX2_reads 1 (some .int), Cond.methodLink RL 59 yX3_reads, Cond.instanceMethod yX3_reads, Cond.selects RX3 yX3_reads yX3_reads, Cond.code yX3_reads cX3_reads 1 (some .int), Cond.methodLink RL 60 yX2_writes, Cond.instanceMethod yX2_writes, Cond.selects RX2 yX2_writes yX2_writes, Cond.code yX2_writes cX2_writes 1 (some .int), Cond.methodLink RL 63 yX3_writes, Cond.instanceMethod yX3_writes, Cond.selects RX3 yX3_writes yX3_writes, Cond.code yX3_writes cX3_writes 1 (some .int)]
def wsL_law : List Cond := (wsL_law_r1 ++ (wsL_law_r2 ++ (wsL_law_r3 ++ (wsL_law_r4 ++ (wsL_law_r5 ++ (wsL_law_r6 ++ (wsL_law_r7 ++ (wsL_law_r8 ++ (wsL_law_r9 ++ (wsL_law_r10 ++ (wsL_law_r11 ++ (wsL_law_r12 ++ (wsL_law_r13 ++ (wsL_law_r14 ++ (wsL_law_r15 ++ wsL_law_r16))))))))))))))) ++ wsX20 ++ wsX30 ++ wsX10 ++ wsX00 ++ ([] : List Cond)
abbrev vwCl : List vw_C := [(RX0, TX0, 2), (RX1, TX1, 9), (RX2, TX2, 4), (RX3, TX3, 11)]
end
section
theorem wl_places {big ws : List Cond} (ps : List Nat) (h : ws = ps.filterMap (fun i => big[i]?)) : ∀ w ∈ ws, w ∈ big := by
  intro w hw
  rw [h] at hw
  obtain ⟨i, -, hi⟩ := List.mem_filterMap.mp hw
  exact List.mem_of_getElem? hi
set_option maxRecDepth 20000 in
theorem wl_r1 : ∀ w ∈ wsL_law_r1, w ∈ lw_tbl := wl_places [36, 37, 30, 309, 310, 33, 38, 39, 40, 41, 42, 43, 44, 45, 31, 93, 94, 46, 47, 48, 49, 50, 65, 52] (by decide +kernel)
set_option maxRecDepth 20000 in
theorem wl_r2 : ∀ w ∈ wsL_law_r2, w ∈ lw_tbl := wl_places [32, 66, 67, 54, 55, 56, 64, 57, 311, 312, 313, 314, 315, 316, 317, 318, 319, 349, 320, 321, 322, 106, 107, 108] (by decide +kernel)
set_option maxRecDepth 20000 in
theorem wl_r3 : ∀ w ∈ wsL_law_r3, w ∈ lw_tbl := wl_places [109, 95, 96, 110, 111, 112, 113, 114, 115, 116, 117, 118, 119, 68, 69, 70, 71, 72, 73, 120, 121, 122, 123, 58] (by decide +kernel)
set_option maxRecDepth 20000 in
theorem wl_r4 : ∀ w ∈ wsL_law_r4, w ∈ lw_tbl := wl_places [350, 351, 352, 353, 323, 324, 124, 125, 126, 127, 128, 129, 130, 131, 132, 133, 134, 135, 136, 137, 138, 139, 141, 0] (by decide +kernel)
set_option maxRecDepth 20000 in
theorem wl_r5 : ∀ w ∈ wsL_law_r5, w ∈ lw_tbl := wl_places [142, 143, 144, 145, 146, 147, 148, 150, 1, 151, 152, 153, 154, 155, 156, 158, 157, 34, 159, 160, 161, 162, 163, 164] (by decide +kernel)
set_option maxRecDepth 20000 in
theorem wl_r6 : ∀ w ∈ wsL_law_r6, w ∈ lw_tbl := wl_places [165, 166, 167, 168, 169, 170, 171, 173, 2, 174, 175, 176, 177, 178, 180, 3, 181, 196, 182, 183, 184, 185, 186, 187] (by decide +kernel)
set_option maxRecDepth 20000 in
theorem wl_r7 : ∀ w ∈ wsL_law_r7, w ∈ lw_tbl := wl_places [188, 189, 190, 191, 192, 193, 194, 195, 197, 198, 199, 200, 201, 203, 4, 204, 205, 207, 5, 208, 209, 210, 35, 211] (by decide +kernel)
set_option maxRecDepth 20000 in
theorem wl_r8 : ∀ w ∈ wsL_law_r8, w ∈ lw_tbl := wl_places [212, 214, 6, 215, 219, 220, 221, 216, 217, 218, 222, 224, 7, 225, 226, 228, 8, 229, 230, 232, 9, 233, 234, 236] (by decide +kernel)
set_option maxRecDepth 20000 in
theorem wl_r9 : ∀ w ∈ wsL_law_r9, w ∈ lw_tbl := wl_places [10, 237, 238, 239, 240, 241, 242, 243, 244, 245, 246, 247, 248, 249, 250, 251, 252, 253, 354, 355, 356, 357, 325, 358] (by decide +kernel)
set_option maxRecDepth 20000 in
theorem wl_r10 : ∀ w ∈ wsL_law_r10, w ∈ lw_tbl := wl_places [359, 360, 361, 363, 12, 364, 365, 367, 13, 368, 369, 371, 14, 372, 373, 375, 15, 376, 377, 379, 16, 380, 381, 383] (by decide +kernel)
set_option maxRecDepth 20000 in
theorem wl_r11 : ∀ w ∈ wsL_law_r11, w ∈ lw_tbl := wl_places [17, 384, 385, 387, 18, 388, 389, 391, 19, 392, 393, 395, 20, 396, 397, 399, 21, 400, 401, 403, 22, 404, 405, 407] (by decide +kernel)
set_option maxRecDepth 20000 in
theorem wl_r12 : ∀ w ∈ wsL_law_r12, w ∈ lw_tbl := wl_places [23, 408, 409, 411, 24, 412, 413, 415, 25, 416, 417, 418, 419, 420, 422, 26, 423, 424, 426, 27, 427, 428, 430, 28] (by decide +kernel)
set_option maxRecDepth 20000 in
theorem wl_r13 : ∀ w ∈ wsL_law_r13, w ∈ lw_tbl := wl_places [431, 254, 255, 256, 257, 258, 432, 433, 434, 435, 259, 260, 261, 262, 263, 265, 11, 266, 436, 437, 438, 439, 440, 441] (by decide +kernel)
set_option maxRecDepth 20000 in
theorem wl_r14 : ∀ w ∈ wsL_law_r14, w ∈ lw_tbl := wl_places [442, 267, 268, 269, 270, 271, 443, 444, 445, 446, 272, 273, 274, 275, 276, 447, 448, 449, 450, 277, 278, 279, 280, 281] (by decide +kernel)
set_option maxRecDepth 20000 in
theorem wl_r15 : ∀ w ∈ wsL_law_r15, w ∈ lw_tbl := wl_places [282, 283, 284, 451, 452, 453, 454, 285, 286, 287, 288, 289, 290, 291, 292, 455, 456, 457, 458, 293, 294, 295, 296, 297] (by decide +kernel)
set_option maxRecDepth 20000 in
theorem wl_r16 : ∀ w ∈ wsL_law_r16, w ∈ lw_tbl := wl_places [298, 299, 300, 459, 460, 461, 462, 301, 302, 303, 304, 463, 464, 465, 466, 305, 306, 307, 308, 467, 468, 469, 470] (by decide +kernel)
set_option maxRecDepth 20000 in
theorem wl_X0 : ∀ w ∈ wsX00, w ∈ lw_tbl := by decide +kernel
set_option maxRecDepth 20000 in
theorem wl_X1 : ∀ w ∈ wsX10, w ∈ lw_tbl := by decide +kernel
set_option maxRecDepth 20000 in
theorem wl_X2 : ∀ w ∈ wsX20, w ∈ lw_tbl := by decide +kernel
set_option maxRecDepth 20000 in
theorem wl_X3 : ∀ w ∈ wsX30, w ∈ lw_tbl := by decide +kernel
theorem wl_app {a b c : List Cond} (h1 : ∀ w ∈ a, w ∈ c) (h2 : ∀ w ∈ b, w ∈ c) : ∀ w ∈ a ++ b, w ∈ c := fun w h => (List.mem_append.mp h).elim (h1 w) (h2 w)
theorem wsL_law_in : ∀ w ∈ wsL_law, w ∈ lw_tbl := by
  unfold wsL_law
  exact wl_app (wl_app (wl_app (wl_app (wl_app (wl_app wl_r1 (wl_app wl_r2 (wl_app wl_r3 (wl_app wl_r4 (wl_app wl_r5 (wl_app wl_r6 (wl_app wl_r7 (wl_app wl_r8 (wl_app wl_r9 (wl_app wl_r10 (wl_app wl_r11 (wl_app wl_r12 (wl_app wl_r13 (wl_app wl_r14 (wl_app wl_r15 wl_r16))))))))))))))) wl_X2) wl_X3) wl_X1) wl_X0) (fun _ h => absurd h List.not_mem_nil)
end
section
theorem inlX0 : ∀ w ∈ wsX00, w ∈ wsL_law := fun _ h => List.mem_append_left _ (List.mem_append_right _ h)
theorem inX0 : ∀ w ∈ wsX00, w ∈ lw_tbl := fun w h => wsL_law_in w (inlX0 w h)
theorem inlX1 : ∀ w ∈ wsX10, w ∈ wsL_law := fun _ h => List.mem_append_left _ (List.mem_append_left _ (List.mem_append_right _ h))
theorem inX1 : ∀ w ∈ wsX10, w ∈ lw_tbl := fun w h => wsL_law_in w (inlX1 w h)
theorem inlX2 : ∀ w ∈ wsX20, w ∈ wsL_law := fun _ h => List.mem_append_left _ (List.mem_append_left _ (List.mem_append_left _ (List.mem_append_left _ (List.mem_append_right _ h))))
theorem inX2 : ∀ w ∈ wsX20, w ∈ lw_tbl := fun w h => wsL_law_in w (inlX2 w h)
theorem inlX3 : ∀ w ∈ wsX30, w ∈ wsL_law := fun _ h => List.mem_append_left _ (List.mem_append_left _ (List.mem_append_left _ (List.mem_append_right _ h)))
theorem inX3 : ∀ w ∈ wsX30, w ∈ lw_tbl := fun w h => wsL_law_in w (inlX3 w h)
theorem inJ9 : ∀ w ∈ wsJ90, w ∈ lw_tbl := by decide +kernel
theorem inJ10 : ∀ w ∈ wsJ100, w ∈ lw_tbl := by decide +kernel
theorem dX0_init_0 : decode cX0_init 0 = .ok (.aload_n 0, 1) := by decide +kernel
theorem dX0_init_1 : decode cX0_init 1 = .ok (.invokespecial 3, 3) := by decide +kernel
theorem dX0_init_4 : decode cX0_init 4 = .ok (.aload_n 0, 1) := by decide +kernel
theorem dX0_init_5 : decode cX0_init 5 = .ok (.bipush 17, 2) := by decide +kernel
theorem dX0_init_7 : decode cX0_init 7 = .ok (.newarray .int, 2) := by decide +kernel
theorem dX0_init_9 : decode cX0_init 9 = .ok (.putfield 11, 3) := by decide +kernel
theorem dX0_init_12 : decode cX0_init 12 = .ok (.return_, 1) := by decide +kernel
theorem dX0_clear_0 : decode cX0_clear 0 = .ok (.aload_n 0, 1) := by decide +kernel
theorem dX0_clear_1 : decode cX0_clear 1 = .ok (.iconst 0, 1) := by decide +kernel
theorem dX0_clear_2 : decode cX0_clear 2 = .ok (.putfield 15, 3) := by decide +kernel
theorem dX0_clear_5 : decode cX0_clear 5 = .ok (.return_, 1) := by decide +kernel
theorem dX0_size_0 : decode cX0_size 0 = .ok (.aload_n 0, 1) := by decide +kernel
theorem dX0_size_1 : decode cX0_size 1 = .ok (.getfield 15, 3) := by decide +kernel
theorem dX0_size_4 : decode cX0_size 4 = .ok (.ireturn, 1) := by decide +kernel
theorem dX0_at_0 : decode cX0_at 0 = .ok (.iload_n 1, 1) := by decide +kernel
theorem dX0_at_1 : decode cX0_at 1 = .ok (.ifCond .lt 20, 3) := by decide +kernel
theorem dX0_at_4 : decode cX0_at 4 = .ok (.iload_n 1, 1) := by decide +kernel
theorem dX0_at_5 : decode cX0_at 5 = .ok (.aload_n 0, 1) := by decide +kernel
theorem dX0_at_6 : decode cX0_at 6 = .ok (.getfield 15, 3) := by decide +kernel
theorem dX0_at_9 : decode cX0_at 9 = .ok (.if_icmp .ge 12, 3) := by decide +kernel
theorem dX0_at_12 : decode cX0_at 12 = .ok (.aload_n 0, 1) := by decide +kernel
theorem dX0_at_13 : decode cX0_at 13 = .ok (.getfield 11, 3) := by decide +kernel
theorem dX0_at_16 : decode cX0_at 16 = .ok (.iload_n 1, 1) := by decide +kernel
theorem dX0_at_17 : decode cX0_at 17 = .ok (.iaload, 1) := by decide +kernel
theorem dX0_at_18 : decode cX0_at 18 = .ok (.goto 4, 3) := by decide +kernel
theorem dX0_at_21 : decode cX0_at 21 = .ok (.iconst (-1), 1) := by decide +kernel
theorem dX0_at_22 : decode cX0_at 22 = .ok (.ireturn, 1) := by decide +kernel
set_option maxRecDepth 20000 in
theorem ggX0_has_X0_placeOf : GoodIn wsX0_has wsX0_placeOf := goodIn_r _ [5, 6, 7, 8, 9] (by decide +kernel) (by decide +kernel)
set_option maxRecDepth 20000 in
theorem gX0_has_X0_placeOf : GoodIn wsX0_has (wsV RX0 19 RX0 yX0_placeOf wsX0_placeOf) := goodIn_app (goodIn_of _ (by decide +kernel)) ggX0_has_X0_placeOf
theorem dX0_has_0 : decode cX0_has 0 = .ok (.aload_n 0, 1) := by decide +kernel
theorem dX0_has_1 : decode cX0_has 1 = .ok (.iload_n 1, 1) := by decide +kernel
theorem dX0_has_2 : decode cX0_has 2 = .ok (.invokevirtual 19, 3) := by decide +kernel
theorem dX0_has_5 : decode cX0_has 5 = .ok (.iconst (-1), 1) := by decide +kernel
theorem dX0_has_6 : decode cX0_has 6 = .ok (.if_icmp .eq 7, 3) := by decide +kernel
theorem dX0_has_9 : decode cX0_has 9 = .ok (.iconst 1, 1) := by decide +kernel
theorem dX0_has_10 : decode cX0_has 10 = .ok (.goto 4, 3) := by decide +kernel
theorem dX0_has_13 : decode cX0_has 13 = .ok (.iconst 0, 1) := by decide +kernel
theorem dX0_has_14 : decode cX0_has 14 = .ok (.ireturn, 1) := by decide +kernel
theorem dX0_addHead_0 : decode cX0_addHead 0 = .ok (.iload_n 1, 1) := by decide +kernel
theorem dX0_addHead_1 : decode cX0_addHead 1 = .ok (.iconst (-1), 1) := by decide +kernel
theorem dX0_addHead_2 : decode cX0_addHead 2 = .ok (.if_icmp .eq 12, 3) := by decide +kernel
theorem dX0_addHead_5 : decode cX0_addHead 5 = .ok (.aload_n 0, 1) := by decide +kernel
theorem dX0_addHead_6 : decode cX0_addHead 6 = .ok (.getfield 15, 3) := by decide +kernel
theorem dX0_addHead_9 : decode cX0_addHead 9 = .ok (.bipush 17, 2) := by decide +kernel
theorem dX0_addHead_11 : decode cX0_addHead 11 = .ok (.if_icmp .ne 4, 3) := by decide +kernel
theorem dX0_addHead_14 : decode cX0_addHead 14 = .ok (.return_, 1) := by decide +kernel
theorem dX0_addHead_15 : decode cX0_addHead 15 = .ok (.aload_n 0, 1) := by decide +kernel
theorem dX0_addHead_16 : decode cX0_addHead 16 = .ok (.getfield 11, 3) := by decide +kernel
theorem dX0_addHead_19 : decode cX0_addHead 19 = .ok (.iconst 0, 1) := by decide +kernel
theorem dX0_addHead_20 : decode cX0_addHead 20 = .ok (.aload_n 0, 1) := by decide +kernel
theorem dX0_addHead_21 : decode cX0_addHead 21 = .ok (.getfield 11, 3) := by decide +kernel
theorem dX0_addHead_24 : decode cX0_addHead 24 = .ok (.iconst 1, 1) := by decide +kernel
theorem dX0_addHead_25 : decode cX0_addHead 25 = .ok (.aload_n 0, 1) := by decide +kernel
theorem dX0_addHead_26 : decode cX0_addHead 26 = .ok (.getfield 15, 3) := by decide +kernel
theorem dX0_addHead_29 : decode cX0_addHead 29 = .ok (.invokestatic 23, 3) := by decide +kernel
theorem dX0_addHead_32 : decode cX0_addHead 32 = .ok (.aload_n 0, 1) := by decide +kernel
theorem dX0_addHead_33 : decode cX0_addHead 33 = .ok (.getfield 11, 3) := by decide +kernel
theorem dX0_addHead_36 : decode cX0_addHead 36 = .ok (.iconst 0, 1) := by decide +kernel
theorem dX0_addHead_37 : decode cX0_addHead 37 = .ok (.iload_n 1, 1) := by decide +kernel
theorem dX0_addHead_38 : decode cX0_addHead 38 = .ok (.iastore, 1) := by decide +kernel
theorem dX0_addHead_39 : decode cX0_addHead 39 = .ok (.aload_n 0, 1) := by decide +kernel
theorem dX0_addHead_40 : decode cX0_addHead 40 = .ok (.dup, 1) := by decide +kernel
theorem dX0_addHead_41 : decode cX0_addHead 41 = .ok (.getfield 15, 3) := by decide +kernel
theorem dX0_addHead_44 : decode cX0_addHead 44 = .ok (.iconst 1, 1) := by decide +kernel
theorem dX0_addHead_45 : decode cX0_addHead 45 = .ok (.iadd, 1) := by decide +kernel
theorem dX0_addHead_46 : decode cX0_addHead 46 = .ok (.putfield 15, 3) := by decide +kernel
theorem dX0_addHead_49 : decode cX0_addHead 49 = .ok (.return_, 1) := by decide +kernel
theorem dX0_addTail_0 : decode cX0_addTail 0 = .ok (.iload_n 1, 1) := by decide +kernel
theorem dX0_addTail_1 : decode cX0_addTail 1 = .ok (.iconst (-1), 1) := by decide +kernel
theorem dX0_addTail_2 : decode cX0_addTail 2 = .ok (.if_icmp .eq 12, 3) := by decide +kernel
theorem dX0_addTail_5 : decode cX0_addTail 5 = .ok (.aload_n 0, 1) := by decide +kernel
theorem dX0_addTail_6 : decode cX0_addTail 6 = .ok (.getfield 15, 3) := by decide +kernel
theorem dX0_addTail_9 : decode cX0_addTail 9 = .ok (.bipush 17, 2) := by decide +kernel
theorem dX0_addTail_11 : decode cX0_addTail 11 = .ok (.if_icmp .ne 4, 3) := by decide +kernel
theorem dX0_addTail_14 : decode cX0_addTail 14 = .ok (.return_, 1) := by decide +kernel
theorem dX0_addTail_15 : decode cX0_addTail 15 = .ok (.aload_n 0, 1) := by decide +kernel
theorem dX0_addTail_16 : decode cX0_addTail 16 = .ok (.getfield 11, 3) := by decide +kernel
theorem dX0_addTail_19 : decode cX0_addTail 19 = .ok (.aload_n 0, 1) := by decide +kernel
theorem dX0_addTail_20 : decode cX0_addTail 20 = .ok (.getfield 15, 3) := by decide +kernel
theorem dX0_addTail_23 : decode cX0_addTail 23 = .ok (.iload_n 1, 1) := by decide +kernel
theorem dX0_addTail_24 : decode cX0_addTail 24 = .ok (.iastore, 1) := by decide +kernel
theorem dX0_addTail_25 : decode cX0_addTail 25 = .ok (.aload_n 0, 1) := by decide +kernel
theorem dX0_addTail_26 : decode cX0_addTail 26 = .ok (.dup, 1) := by decide +kernel
theorem dX0_addTail_27 : decode cX0_addTail 27 = .ok (.getfield 15, 3) := by decide +kernel
theorem dX0_addTail_30 : decode cX0_addTail 30 = .ok (.iconst 1, 1) := by decide +kernel
theorem dX0_addTail_31 : decode cX0_addTail 31 = .ok (.iadd, 1) := by decide +kernel
theorem dX0_addTail_32 : decode cX0_addTail 32 = .ok (.putfield 15, 3) := by decide +kernel
theorem dX0_addTail_35 : decode cX0_addTail 35 = .ok (.return_, 1) := by decide +kernel
set_option maxRecDepth 20000 in
theorem ggX0_takeHead_X0_at : GoodIn wsX0_takeHead wsX0_at := goodIn_r _ [5, 6, 7, 20, 21] (by decide +kernel) (by decide +kernel)
set_option maxRecDepth 20000 in
theorem gX0_takeHead_X0_at : GoodIn wsX0_takeHead (wsV RX0 29 RX0 yX0_at wsX0_at) := goodIn_app (goodIn_of _ (by decide +kernel)) ggX0_takeHead_X0_at
set_option maxRecDepth 20000 in
theorem ggX0_takeHead_X0_remove : GoodIn wsX0_takeHead wsX0_remove := goodIn_r _ [11, 6, 7, 12, 13, 14, 15, 16, 17, 18, 4, 19, 20, 21] (by decide +kernel) (by decide +kernel)
set_option maxRecDepth 20000 in
theorem gX0_takeHead_X0_remove : GoodIn wsX0_takeHead (wsV RX0 32 RX0 yX0_remove wsX0_remove) := goodIn_app (goodIn_of _ (by decide +kernel)) ggX0_takeHead_X0_remove
theorem dX0_takeHead_0 : decode cX0_takeHead 0 = .ok (.aload_n 0, 1) := by decide +kernel
theorem dX0_takeHead_1 : decode cX0_takeHead 1 = .ok (.iconst 0, 1) := by decide +kernel
theorem dX0_takeHead_2 : decode cX0_takeHead 2 = .ok (.invokevirtual 29, 3) := by decide +kernel
theorem dX0_takeHead_5 : decode cX0_takeHead 5 = .ok (.istore_n 1, 1) := by decide +kernel
theorem dX0_takeHead_6 : decode cX0_takeHead 6 = .ok (.aload_n 0, 1) := by decide +kernel
theorem dX0_takeHead_7 : decode cX0_takeHead 7 = .ok (.iload_n 1, 1) := by decide +kernel
theorem dX0_takeHead_8 : decode cX0_takeHead 8 = .ok (.invokevirtual 32, 3) := by decide +kernel
theorem dX0_takeHead_11 : decode cX0_takeHead 11 = .ok (.pop, 1) := by decide +kernel
theorem dX0_takeHead_12 : decode cX0_takeHead 12 = .ok (.iload_n 1, 1) := by decide +kernel
theorem dX0_takeHead_13 : decode cX0_takeHead 13 = .ok (.ireturn, 1) := by decide +kernel
theorem dX0_takeTail_0 : decode cX0_takeTail 0 = .ok (.aload_n 0, 1) := by decide +kernel
theorem dX0_takeTail_1 : decode cX0_takeTail 1 = .ok (.getfield 15, 3) := by decide +kernel
theorem dX0_takeTail_4 : decode cX0_takeTail 4 = .ok (.ifCond .ne 5, 3) := by decide +kernel
theorem dX0_takeTail_7 : decode cX0_takeTail 7 = .ok (.iconst (-1), 1) := by decide +kernel
theorem dX0_takeTail_8 : decode cX0_takeTail 8 = .ok (.ireturn, 1) := by decide +kernel
theorem dX0_takeTail_9 : decode cX0_takeTail 9 = .ok (.aload_n 0, 1) := by decide +kernel
theorem dX0_takeTail_10 : decode cX0_takeTail 10 = .ok (.dup, 1) := by decide +kernel
theorem dX0_takeTail_11 : decode cX0_takeTail 11 = .ok (.getfield 15, 3) := by decide +kernel
theorem dX0_takeTail_14 : decode cX0_takeTail 14 = .ok (.iconst 1, 1) := by decide +kernel
theorem dX0_takeTail_15 : decode cX0_takeTail 15 = .ok (.isub, 1) := by decide +kernel
theorem dX0_takeTail_16 : decode cX0_takeTail 16 = .ok (.putfield 15, 3) := by decide +kernel
theorem dX0_takeTail_19 : decode cX0_takeTail 19 = .ok (.aload_n 0, 1) := by decide +kernel
theorem dX0_takeTail_20 : decode cX0_takeTail 20 = .ok (.getfield 11, 3) := by decide +kernel
theorem dX0_takeTail_23 : decode cX0_takeTail 23 = .ok (.aload_n 0, 1) := by decide +kernel
theorem dX0_takeTail_24 : decode cX0_takeTail 24 = .ok (.getfield 15, 3) := by decide +kernel
theorem dX0_takeTail_27 : decode cX0_takeTail 27 = .ok (.iaload, 1) := by decide +kernel
theorem dX0_takeTail_28 : decode cX0_takeTail 28 = .ok (.ireturn, 1) := by decide +kernel
set_option maxRecDepth 20000 in
theorem ggX0_remove_X0_placeOf : GoodIn wsX0_remove wsX0_placeOf := goodIn_r _ [11, 1, 2, 12, 13] (by decide +kernel) (by decide +kernel)
set_option maxRecDepth 20000 in
theorem gX0_remove_X0_placeOf : GoodIn wsX0_remove (wsV RX0 19 RX0 yX0_placeOf wsX0_placeOf) := goodIn_app (goodIn_of _ (by decide +kernel)) ggX0_remove_X0_placeOf
theorem dX0_remove_0 : decode cX0_remove 0 = .ok (.aload_n 0, 1) := by decide +kernel
theorem dX0_remove_1 : decode cX0_remove 1 = .ok (.iload_n 1, 1) := by decide +kernel
theorem dX0_remove_2 : decode cX0_remove 2 = .ok (.invokevirtual 19, 3) := by decide +kernel
theorem dX0_remove_5 : decode cX0_remove 5 = .ok (.istore_n 2, 1) := by decide +kernel
theorem dX0_remove_6 : decode cX0_remove 6 = .ok (.iload_n 2, 1) := by decide +kernel
theorem dX0_remove_7 : decode cX0_remove 7 = .ok (.iconst (-1), 1) := by decide +kernel
theorem dX0_remove_8 : decode cX0_remove 8 = .ok (.if_icmp .ne 5, 3) := by decide +kernel
theorem dX0_remove_11 : decode cX0_remove 11 = .ok (.iconst 0, 1) := by decide +kernel
theorem dX0_remove_12 : decode cX0_remove 12 = .ok (.ireturn, 1) := by decide +kernel
theorem dX0_remove_13 : decode cX0_remove 13 = .ok (.aload_n 0, 1) := by decide +kernel
theorem dX0_remove_14 : decode cX0_remove 14 = .ok (.dup, 1) := by decide +kernel
theorem dX0_remove_15 : decode cX0_remove 15 = .ok (.getfield 15, 3) := by decide +kernel
theorem dX0_remove_18 : decode cX0_remove 18 = .ok (.iconst 1, 1) := by decide +kernel
theorem dX0_remove_19 : decode cX0_remove 19 = .ok (.isub, 1) := by decide +kernel
theorem dX0_remove_20 : decode cX0_remove 20 = .ok (.putfield 15, 3) := by decide +kernel
theorem dX0_remove_23 : decode cX0_remove 23 = .ok (.aload_n 0, 1) := by decide +kernel
theorem dX0_remove_24 : decode cX0_remove 24 = .ok (.getfield 11, 3) := by decide +kernel
theorem dX0_remove_27 : decode cX0_remove 27 = .ok (.iload_n 2, 1) := by decide +kernel
theorem dX0_remove_28 : decode cX0_remove 28 = .ok (.iconst 1, 1) := by decide +kernel
theorem dX0_remove_29 : decode cX0_remove 29 = .ok (.iadd, 1) := by decide +kernel
theorem dX0_remove_30 : decode cX0_remove 30 = .ok (.aload_n 0, 1) := by decide +kernel
theorem dX0_remove_31 : decode cX0_remove 31 = .ok (.getfield 11, 3) := by decide +kernel
theorem dX0_remove_34 : decode cX0_remove 34 = .ok (.iload_n 2, 1) := by decide +kernel
theorem dX0_remove_35 : decode cX0_remove 35 = .ok (.aload_n 0, 1) := by decide +kernel
theorem dX0_remove_36 : decode cX0_remove 36 = .ok (.getfield 15, 3) := by decide +kernel
theorem dX0_remove_39 : decode cX0_remove 39 = .ok (.iload_n 2, 1) := by decide +kernel
theorem dX0_remove_40 : decode cX0_remove 40 = .ok (.isub, 1) := by decide +kernel
theorem dX0_remove_41 : decode cX0_remove 41 = .ok (.invokestatic 23, 3) := by decide +kernel
theorem dX0_remove_44 : decode cX0_remove 44 = .ok (.iconst 1, 1) := by decide +kernel
theorem dX0_remove_45 : decode cX0_remove 45 = .ok (.ireturn, 1) := by decide +kernel
theorem dX0_placeOf_0 : decode cX0_placeOf 0 = .ok (.iconst 0, 1) := by decide +kernel
theorem dX0_placeOf_1 : decode cX0_placeOf 1 = .ok (.istore_n 2, 1) := by decide +kernel
theorem dX0_placeOf_2 : decode cX0_placeOf 2 = .ok (.iload_n 2, 1) := by decide +kernel
theorem dX0_placeOf_3 : decode cX0_placeOf 3 = .ok (.aload_n 0, 1) := by decide +kernel
theorem dX0_placeOf_4 : decode cX0_placeOf 4 = .ok (.getfield 15, 3) := by decide +kernel
theorem dX0_placeOf_7 : decode cX0_placeOf 7 = .ok (.if_icmp .ge 21, 3) := by decide +kernel
theorem dX0_placeOf_10 : decode cX0_placeOf 10 = .ok (.aload_n 0, 1) := by decide +kernel
theorem dX0_placeOf_11 : decode cX0_placeOf 11 = .ok (.getfield 11, 3) := by decide +kernel
theorem dX0_placeOf_14 : decode cX0_placeOf 14 = .ok (.iload_n 2, 1) := by decide +kernel
theorem dX0_placeOf_15 : decode cX0_placeOf 15 = .ok (.iaload, 1) := by decide +kernel
theorem dX0_placeOf_16 : decode cX0_placeOf 16 = .ok (.iload_n 1, 1) := by decide +kernel
theorem dX0_placeOf_17 : decode cX0_placeOf 17 = .ok (.if_icmp .ne 5, 3) := by decide +kernel
theorem dX0_placeOf_20 : decode cX0_placeOf 20 = .ok (.iload_n 2, 1) := by decide +kernel
theorem dX0_placeOf_21 : decode cX0_placeOf 21 = .ok (.ireturn, 1) := by decide +kernel
theorem dX0_placeOf_22 : decode cX0_placeOf 22 = .ok (.iinc 2 1, 3) := by decide +kernel
theorem dX0_placeOf_25 : decode cX0_placeOf 25 = .ok (.goto (-23), 3) := by decide +kernel
theorem dX0_placeOf_28 : decode cX0_placeOf 28 = .ok (.iconst (-1), 1) := by decide +kernel
theorem dX0_placeOf_29 : decode cX0_placeOf 29 = .ok (.ireturn, 1) := by decide +kernel
set_option maxRecDepth 20000 in
theorem ggX1_init_X0_init : GoodIn wsX1_init wsX0_init := goodIn_r _ [11, 12, 2, 3, 13, 14, 24, 25] (by decide +kernel) (by decide +kernel)
set_option maxRecDepth 20000 in
theorem gX1_init_X0_init_n17 : GoodIn wsX1_init (wsX0_init) := ggX1_init_X0_init
theorem dX1_init_0 : decode cX1_init 0 = .ok (.aload_n 0, 1) := by decide +kernel
theorem dX1_init_1 : decode cX1_init 1 = .ok (.invokespecial 3, 3) := by decide +kernel
theorem dX1_init_4 : decode cX1_init 4 = .ok (.aload_n 0, 1) := by decide +kernel
theorem dX1_init_5 : decode cX1_init 5 = .ok (.iconst 4, 1) := by decide +kernel
theorem dX1_init_6 : decode cX1_init 6 = .ok (.anewarray 11, 3) := by decide +kernel
theorem dX1_init_9 : decode cX1_init 9 = .ok (.putfield 13, 3) := by decide +kernel
theorem dX1_init_12 : decode cX1_init 12 = .ok (.iconst 0, 1) := by decide +kernel
theorem dX1_init_13 : decode cX1_init 13 = .ok (.istore_n 3, 1) := by decide +kernel
theorem dX1_init_14 : decode cX1_init 14 = .ok (.iload_n 3, 1) := by decide +kernel
theorem dX1_init_15 : decode cX1_init 15 = .ok (.iconst 4, 1) := by decide +kernel
theorem dX1_init_16 : decode cX1_init 16 = .ok (.if_icmp .ge 22, 3) := by decide +kernel
theorem dX1_init_19 : decode cX1_init 19 = .ok (.aload_n 0, 1) := by decide +kernel
theorem dX1_init_20 : decode cX1_init 20 = .ok (.getfield 13, 3) := by decide +kernel
theorem dX1_init_23 : decode cX1_init 23 = .ok (.iload_n 3, 1) := by decide +kernel
theorem dX1_init_24 : decode cX1_init 24 = .ok (.new 11, 3) := by decide +kernel
theorem dX1_init_27 : decode cX1_init 27 = .ok (.dup, 1) := by decide +kernel
theorem dX1_init_28 : decode cX1_init 28 = .ok (.invokespecial 17, 3) := by decide +kernel
theorem dX1_init_31 : decode cX1_init 31 = .ok (.aastore, 1) := by decide +kernel
theorem dX1_init_32 : decode cX1_init 32 = .ok (.iinc 3 1, 3) := by decide +kernel
theorem dX1_init_35 : decode cX1_init 35 = .ok (.goto (-21), 3) := by decide +kernel
theorem dX1_init_38 : decode cX1_init 38 = .ok (.aload_n 0, 1) := by decide +kernel
theorem dX1_init_39 : decode cX1_init 39 = .ok (.iload_n 1, 1) := by decide +kernel
theorem dX1_init_40 : decode cX1_init 40 = .ok (.putfield 18, 3) := by decide +kernel
theorem dX1_init_43 : decode cX1_init 43 = .ok (.aload_n 0, 1) := by decide +kernel
theorem dX1_init_44 : decode cX1_init 44 = .ok (.iload_n 2, 1) := by decide +kernel
theorem dX1_init_45 : decode cX1_init 45 = .ok (.putfield 22, 3) := by decide +kernel
theorem dX1_init_48 : decode cX1_init 48 = .ok (.return_, 1) := by decide +kernel
set_option maxRecDepth 20000 in
theorem ggX1_restart_X0_clear : GoodIn wsX1_restart wsX0_clear := goodIn_r _ [14, 15, 25, 26] (by decide +kernel) (by decide +kernel)
set_option maxRecDepth 20000 in
theorem gX1_restart_X0_clear : GoodIn wsX1_restart (wsV RX1 25 RX0 yX0_clear wsX0_clear) := goodIn_app (goodIn_of _ (by decide +kernel)) ggX1_restart_X0_clear
theorem dX1_restart_0 : decode cX1_restart 0 = .ok (.iconst 0, 1) := by decide +kernel
theorem dX1_restart_1 : decode cX1_restart 1 = .ok (.istore_n 3, 1) := by decide +kernel
theorem dX1_restart_2 : decode cX1_restart 2 = .ok (.iload_n 3, 1) := by decide +kernel
theorem dX1_restart_3 : decode cX1_restart 3 = .ok (.iconst 4, 1) := by decide +kernel
theorem dX1_restart_4 : decode cX1_restart 4 = .ok (.if_icmp .ge 18, 3) := by decide +kernel
theorem dX1_restart_7 : decode cX1_restart 7 = .ok (.aload_n 0, 1) := by decide +kernel
theorem dX1_restart_8 : decode cX1_restart 8 = .ok (.getfield 13, 3) := by decide +kernel
theorem dX1_restart_11 : decode cX1_restart 11 = .ok (.iload_n 3, 1) := by decide +kernel
theorem dX1_restart_12 : decode cX1_restart 12 = .ok (.aaload, 1) := by decide +kernel
theorem dX1_restart_13 : decode cX1_restart 13 = .ok (.invokevirtual 25, 3) := by decide +kernel
theorem dX1_restart_16 : decode cX1_restart 16 = .ok (.iinc 3 1, 3) := by decide +kernel
theorem dX1_restart_19 : decode cX1_restart 19 = .ok (.goto (-17), 3) := by decide +kernel
theorem dX1_restart_22 : decode cX1_restart 22 = .ok (.aload_n 0, 1) := by decide +kernel
theorem dX1_restart_23 : decode cX1_restart 23 = .ok (.iload_n 1, 1) := by decide +kernel
theorem dX1_restart_24 : decode cX1_restart 24 = .ok (.putfield 18, 3) := by decide +kernel
theorem dX1_restart_27 : decode cX1_restart 27 = .ok (.aload_n 0, 1) := by decide +kernel
theorem dX1_restart_28 : decode cX1_restart 28 = .ok (.iload_n 2, 1) := by decide +kernel
theorem dX1_restart_29 : decode cX1_restart 29 = .ok (.putfield 22, 3) := by decide +kernel
theorem dX1_restart_32 : decode cX1_restart 32 = .ok (.aload_n 0, 1) := by decide +kernel
theorem dX1_restart_33 : decode cX1_restart 33 = .ok (.iconst 0, 1) := by decide +kernel
theorem dX1_restart_34 : decode cX1_restart 34 = .ok (.putfield 28, 3) := by decide +kernel
theorem dX1_restart_37 : decode cX1_restart 37 = .ok (.aload_n 0, 1) := by decide +kernel
theorem dX1_restart_38 : decode cX1_restart 38 = .ok (.lconst 0, 1) := by decide +kernel
theorem dX1_restart_39 : decode cX1_restart 39 = .ok (.putfield 31, 3) := by decide +kernel
theorem dX1_restart_42 : decode cX1_restart 42 = .ok (.aload_n 0, 1) := by decide +kernel
theorem dX1_restart_43 : decode cX1_restart 43 = .ok (.lconst 0, 1) := by decide +kernel
theorem dX1_restart_44 : decode cX1_restart 44 = .ok (.putfield 35, 3) := by decide +kernel
theorem dX1_restart_47 : decode cX1_restart 47 = .ok (.aload_n 0, 1) := by decide +kernel
theorem dX1_restart_48 : decode cX1_restart 48 = .ok (.iconst 0, 1) := by decide +kernel
theorem dX1_restart_49 : decode cX1_restart 49 = .ok (.putfield 38, 3) := by decide +kernel
theorem dX1_restart_52 : decode cX1_restart 52 = .ok (.aload_n 0, 1) := by decide +kernel
theorem dX1_restart_53 : decode cX1_restart 53 = .ok (.iconst 0, 1) := by decide +kernel
theorem dX1_restart_54 : decode cX1_restart 54 = .ok (.putfield 41, 3) := by decide +kernel
theorem dX1_restart_57 : decode cX1_restart 57 = .ok (.aload_n 0, 1) := by decide +kernel
theorem dX1_restart_58 : decode cX1_restart 58 = .ok (.iconst 0, 1) := by decide +kernel
theorem dX1_restart_59 : decode cX1_restart 59 = .ok (.putfield 44, 3) := by decide +kernel
theorem dX1_restart_62 : decode cX1_restart 62 = .ok (.return_, 1) := by decide +kernel
set_option maxRecDepth 20000 in
theorem ggX1_holds_X0_has : GoodIn wsX1_holds wsX0_has := goodIn_r _ [7, 8, 9, 10, 6, 11, 12, 13, 23, 24] (by decide +kernel) (by decide +kernel)
set_option maxRecDepth 20000 in
theorem gX1_holds_X0_has : GoodIn wsX1_holds (wsV RX1 47 RX0 yX0_has wsX0_has) := goodIn_app (goodIn_of _ (by decide +kernel)) ggX1_holds_X0_has
theorem dX1_holds_0 : decode cX1_holds 0 = .ok (.aload_n 0, 1) := by decide +kernel
theorem dX1_holds_1 : decode cX1_holds 1 = .ok (.getfield 18, 3) := by decide +kernel
theorem dX1_holds_4 : decode cX1_holds 4 = .ok (.iconst 2, 1) := by decide +kernel
theorem dX1_holds_5 : decode cX1_holds 5 = .ok (.if_icmp .ne 7, 3) := by decide +kernel
theorem dX1_holds_8 : decode cX1_holds 8 = .ok (.iconst 2, 1) := by decide +kernel
theorem dX1_holds_9 : decode cX1_holds 9 = .ok (.goto 4, 3) := by decide +kernel
theorem dX1_holds_12 : decode cX1_holds 12 = .ok (.iconst 1, 1) := by decide +kernel
theorem dX1_holds_13 : decode cX1_holds 13 = .ok (.istore_n 2, 1) := by decide +kernel
theorem dX1_holds_14 : decode cX1_holds 14 = .ok (.aload_n 0, 1) := by decide +kernel
theorem dX1_holds_15 : decode cX1_holds 15 = .ok (.getfield 13, 3) := by decide +kernel
theorem dX1_holds_18 : decode cX1_holds 18 = .ok (.iconst 0, 1) := by decide +kernel
theorem dX1_holds_19 : decode cX1_holds 19 = .ok (.aaload, 1) := by decide +kernel
theorem dX1_holds_20 : decode cX1_holds 20 = .ok (.iload_n 1, 1) := by decide +kernel
theorem dX1_holds_21 : decode cX1_holds 21 = .ok (.invokevirtual 47, 3) := by decide +kernel
theorem dX1_holds_24 : decode cX1_holds 24 = .ok (.ifCond .ne 16, 3) := by decide +kernel
theorem dX1_holds_27 : decode cX1_holds 27 = .ok (.aload_n 0, 1) := by decide +kernel
theorem dX1_holds_28 : decode cX1_holds 28 = .ok (.getfield 13, 3) := by decide +kernel
theorem dX1_holds_31 : decode cX1_holds 31 = .ok (.iload_n 2, 1) := by decide +kernel
theorem dX1_holds_32 : decode cX1_holds 32 = .ok (.aaload, 1) := by decide +kernel
theorem dX1_holds_33 : decode cX1_holds 33 = .ok (.iload_n 1, 1) := by decide +kernel
theorem dX1_holds_34 : decode cX1_holds 34 = .ok (.invokevirtual 47, 3) := by decide +kernel
theorem dX1_holds_37 : decode cX1_holds 37 = .ok (.ifCond .eq 7, 3) := by decide +kernel
theorem dX1_holds_40 : decode cX1_holds 40 = .ok (.iconst 1, 1) := by decide +kernel
theorem dX1_holds_41 : decode cX1_holds 41 = .ok (.goto 4, 3) := by decide +kernel
theorem dX1_holds_44 : decode cX1_holds 44 = .ok (.iconst 0, 1) := by decide +kernel
theorem dX1_holds_45 : decode cX1_holds 45 = .ok (.ireturn, 1) := by decide +kernel
set_option maxRecDepth 20000 in
theorem ggX1_isDirty_X1_bit : GoodIn wsX1_isDirty wsX1_bit := goodIn_r _ [5] (by decide +kernel) (by decide +kernel)
set_option maxRecDepth 20000 in
theorem gX1_isDirty_X1_bit : GoodIn wsX1_isDirty (va_wsS RX1 51 yX1_bit wsX1_bit) := goodIn_app (goodIn_of _ (by decide +kernel)) ggX1_isDirty_X1_bit
theorem dX1_isDirty_0 : decode cX1_isDirty 0 = .ok (.aload_n 0, 1) := by decide +kernel
theorem dX1_isDirty_1 : decode cX1_isDirty 1 = .ok (.getfield 31, 3) := by decide +kernel
theorem dX1_isDirty_4 : decode cX1_isDirty 4 = .ok (.iload_n 1, 1) := by decide +kernel
theorem dX1_isDirty_5 : decode cX1_isDirty 5 = .ok (.invokestatic 51, 3) := by decide +kernel
theorem dX1_isDirty_8 : decode cX1_isDirty 8 = .ok (.land, 1) := by decide +kernel
theorem dX1_isDirty_9 : decode cX1_isDirty 9 = .ok (.lconst 0, 1) := by decide +kernel
theorem dX1_isDirty_10 : decode cX1_isDirty 10 = .ok (.lcmp, 1) := by decide +kernel
theorem dX1_isDirty_11 : decode cX1_isDirty 11 = .ok (.ifCond .eq 7, 3) := by decide +kernel
theorem dX1_isDirty_14 : decode cX1_isDirty 14 = .ok (.iconst 1, 1) := by decide +kernel
theorem dX1_isDirty_15 : decode cX1_isDirty 15 = .ok (.goto 4, 3) := by decide +kernel
theorem dX1_isDirty_18 : decode cX1_isDirty 18 = .ok (.iconst 0, 1) := by decide +kernel
theorem dX1_isDirty_19 : decode cX1_isDirty 19 = .ok (.ireturn, 1) := by decide +kernel
set_option maxRecDepth 20000 in
theorem ggX1_isMarked_X1_bit : GoodIn wsX1_isMarked wsX1_bit := goodIn_r _ [5] (by decide +kernel) (by decide +kernel)
set_option maxRecDepth 20000 in
theorem gX1_isMarked_X1_bit : GoodIn wsX1_isMarked (va_wsS RX1 51 yX1_bit wsX1_bit) := goodIn_app (goodIn_of _ (by decide +kernel)) ggX1_isMarked_X1_bit
theorem dX1_isMarked_0 : decode cX1_isMarked 0 = .ok (.aload_n 0, 1) := by decide +kernel
theorem dX1_isMarked_1 : decode cX1_isMarked 1 = .ok (.getfield 35, 3) := by decide +kernel
theorem dX1_isMarked_4 : decode cX1_isMarked 4 = .ok (.iload_n 1, 1) := by decide +kernel
theorem dX1_isMarked_5 : decode cX1_isMarked 5 = .ok (.invokestatic 51, 3) := by decide +kernel
theorem dX1_isMarked_8 : decode cX1_isMarked 8 = .ok (.land, 1) := by decide +kernel
theorem dX1_isMarked_9 : decode cX1_isMarked 9 = .ok (.lconst 0, 1) := by decide +kernel
theorem dX1_isMarked_10 : decode cX1_isMarked 10 = .ok (.lcmp, 1) := by decide +kernel
theorem dX1_isMarked_11 : decode cX1_isMarked 11 = .ok (.ifCond .eq 7, 3) := by decide +kernel
theorem dX1_isMarked_14 : decode cX1_isMarked 14 = .ok (.iconst 1, 1) := by decide +kernel
theorem dX1_isMarked_15 : decode cX1_isMarked 15 = .ok (.goto 4, 3) := by decide +kernel
theorem dX1_isMarked_18 : decode cX1_isMarked 18 = .ok (.iconst 0, 1) := by decide +kernel
theorem dX1_isMarked_19 : decode cX1_isMarked 19 = .ok (.ireturn, 1) := by decide +kernel
set_option maxRecDepth 20000 in
theorem ggX1_pageAt_X0_at : GoodIn wsX1_pageAt wsX0_at := goodIn_r _ [6, 7, 8, 18, 19] (by decide +kernel) (by decide +kernel)
set_option maxRecDepth 20000 in
theorem gX1_pageAt_X0_at : GoodIn wsX1_pageAt (wsV RX1 55 RX0 yX0_at wsX0_at) := goodIn_app (goodIn_of _ (by decide +kernel)) ggX1_pageAt_X0_at
theorem dX1_pageAt_0 : decode cX1_pageAt 0 = .ok (.iload_n 1, 1) := by decide +kernel
theorem dX1_pageAt_1 : decode cX1_pageAt 1 = .ok (.ifCond .lt 21, 3) := by decide +kernel
theorem dX1_pageAt_4 : decode cX1_pageAt 4 = .ok (.iload_n 1, 1) := by decide +kernel
theorem dX1_pageAt_5 : decode cX1_pageAt 5 = .ok (.iconst 4, 1) := by decide +kernel
theorem dX1_pageAt_6 : decode cX1_pageAt 6 = .ok (.if_icmp .ge 16, 3) := by decide +kernel
theorem dX1_pageAt_9 : decode cX1_pageAt 9 = .ok (.aload_n 0, 1) := by decide +kernel
theorem dX1_pageAt_10 : decode cX1_pageAt 10 = .ok (.getfield 13, 3) := by decide +kernel
theorem dX1_pageAt_13 : decode cX1_pageAt 13 = .ok (.iload_n 1, 1) := by decide +kernel
theorem dX1_pageAt_14 : decode cX1_pageAt 14 = .ok (.aaload, 1) := by decide +kernel
theorem dX1_pageAt_15 : decode cX1_pageAt 15 = .ok (.iload_n 2, 1) := by decide +kernel
theorem dX1_pageAt_16 : decode cX1_pageAt 16 = .ok (.invokevirtual 55, 3) := by decide +kernel
theorem dX1_pageAt_19 : decode cX1_pageAt 19 = .ok (.goto 4, 3) := by decide +kernel
theorem dX1_pageAt_22 : decode cX1_pageAt 22 = .ok (.iconst (-1), 1) := by decide +kernel
theorem dX1_pageAt_23 : decode cX1_pageAt 23 = .ok (.ireturn, 1) := by decide +kernel
theorem dX1_currentGoal_0 : decode cX1_currentGoal 0 = .ok (.aload_n 0, 1) := by decide +kernel
theorem dX1_currentGoal_1 : decode cX1_currentGoal 1 = .ok (.getfield 18, 3) := by decide +kernel
theorem dX1_currentGoal_4 : decode cX1_currentGoal 4 = .ok (.iconst 3, 1) := by decide +kernel
theorem dX1_currentGoal_5 : decode cX1_currentGoal 5 = .ok (.if_icmp .ne 10, 3) := by decide +kernel
theorem dX1_currentGoal_8 : decode cX1_currentGoal 8 = .ok (.aload_n 0, 1) := by decide +kernel
theorem dX1_currentGoal_9 : decode cX1_currentGoal 9 = .ok (.getfield 28, 3) := by decide +kernel
theorem dX1_currentGoal_12 : decode cX1_currentGoal 12 = .ok (.goto 4, 3) := by decide +kernel
theorem dX1_currentGoal_15 : decode cX1_currentGoal 15 = .ok (.iconst (-1), 1) := by decide +kernel
theorem dX1_currentGoal_16 : decode cX1_currentGoal 16 = .ok (.ireturn, 1) := by decide +kernel
theorem dX1_tally_0 : decode cX1_tally 0 = .ok (.iload_n 1, 1) := by decide +kernel
theorem dX1_tally_1 : decode cX1_tally 1 = .ok (.tableswitch 42 0 2 #[27, 32, 37], 27) := by decide +kernel
theorem dX1_tally_28 : decode cX1_tally 28 = .ok (.aload_n 0, 1) := by decide +kernel
theorem dX1_tally_29 : decode cX1_tally 29 = .ok (.getfield 38, 3) := by decide +kernel
theorem dX1_tally_32 : decode cX1_tally 32 = .ok (.ireturn, 1) := by decide +kernel
theorem dX1_tally_33 : decode cX1_tally 33 = .ok (.aload_n 0, 1) := by decide +kernel
theorem dX1_tally_34 : decode cX1_tally 34 = .ok (.getfield 41, 3) := by decide +kernel
theorem dX1_tally_37 : decode cX1_tally 37 = .ok (.ireturn, 1) := by decide +kernel
theorem dX1_tally_38 : decode cX1_tally 38 = .ok (.aload_n 0, 1) := by decide +kernel
theorem dX1_tally_39 : decode cX1_tally 39 = .ok (.getfield 44, 3) := by decide +kernel
theorem dX1_tally_42 : decode cX1_tally 42 = .ok (.ireturn, 1) := by decide +kernel
theorem dX1_tally_43 : decode cX1_tally 43 = .ok (.iconst (-1), 1) := by decide +kernel
theorem dX1_tally_44 : decode cX1_tally 44 = .ok (.ireturn, 1) := by decide +kernel
set_option maxRecDepth 20000 in
theorem ggX1_soil_X1_bit : GoodIn wsX1_soil wsX1_bit := goodIn_r _ [5] (by decide +kernel) (by decide +kernel)
set_option maxRecDepth 20000 in
theorem gX1_soil_X1_bit : GoodIn wsX1_soil (va_wsS RX1 51 yX1_bit wsX1_bit) := goodIn_app (goodIn_of _ (by decide +kernel)) ggX1_soil_X1_bit
theorem dX1_soil_0 : decode cX1_soil 0 = .ok (.aload_n 0, 1) := by decide +kernel
theorem dX1_soil_1 : decode cX1_soil 1 = .ok (.dup, 1) := by decide +kernel
theorem dX1_soil_2 : decode cX1_soil 2 = .ok (.getfield 31, 3) := by decide +kernel
theorem dX1_soil_5 : decode cX1_soil 5 = .ok (.iload_n 1, 1) := by decide +kernel
theorem dX1_soil_6 : decode cX1_soil 6 = .ok (.invokestatic 51, 3) := by decide +kernel
theorem dX1_soil_9 : decode cX1_soil 9 = .ok (.lor, 1) := by decide +kernel
theorem dX1_soil_10 : decode cX1_soil 10 = .ok (.putfield 31, 3) := by decide +kernel
theorem dX1_soil_13 : decode cX1_soil 13 = .ok (.return_, 1) := by decide +kernel
set_option maxRecDepth 20000 in
theorem ggX1_clean_X1_isDirty : GoodIn wsX1_clean wsX1_isDirty := goodIn_r _ [7, 1, 8, 9, 6, 10, 11, 12, 13, 14, 15, 16, 17, 18, 19] (by decide +kernel) (by decide +kernel)
set_option maxRecDepth 20000 in
theorem gX1_clean_X1_isDirty : GoodIn wsX1_clean (wsV RX1 59 RX1 yX1_isDirty wsX1_isDirty) := goodIn_app (goodIn_of _ (by decide +kernel)) ggX1_clean_X1_isDirty
set_option maxRecDepth 20000 in
theorem ggX1_clean_X1_bit : GoodIn wsX1_clean wsX1_bit := goodIn_r _ [10] (by decide +kernel) (by decide +kernel)
set_option maxRecDepth 20000 in
theorem gX1_clean_X1_bit : GoodIn wsX1_clean (va_wsS RX1 51 yX1_bit wsX1_bit) := goodIn_app (goodIn_of _ (by decide +kernel)) ggX1_clean_X1_bit
theorem dX1_clean_0 : decode cX1_clean 0 = .ok (.aload_n 0, 1) := by decide +kernel
theorem dX1_clean_1 : decode cX1_clean 1 = .ok (.iload_n 1, 1) := by decide +kernel
theorem dX1_clean_2 : decode cX1_clean 2 = .ok (.invokevirtual 59, 3) := by decide +kernel
theorem dX1_clean_5 : decode cX1_clean 5 = .ok (.istore_n 2, 1) := by decide +kernel
theorem dX1_clean_6 : decode cX1_clean 6 = .ok (.aload_n 0, 1) := by decide +kernel
theorem dX1_clean_7 : decode cX1_clean 7 = .ok (.dup, 1) := by decide +kernel
theorem dX1_clean_8 : decode cX1_clean 8 = .ok (.getfield 31, 3) := by decide +kernel
theorem dX1_clean_11 : decode cX1_clean 11 = .ok (.iload_n 1, 1) := by decide +kernel
theorem dX1_clean_12 : decode cX1_clean 12 = .ok (.invokestatic 51, 3) := by decide +kernel
theorem dX1_clean_15 : decode cX1_clean 15 = .ok (.ldc2_w 62, 3) := by decide +kernel
theorem dX1_clean_18 : decode cX1_clean 18 = .ok (.lxor, 1) := by decide +kernel
theorem dX1_clean_19 : decode cX1_clean 19 = .ok (.land, 1) := by decide +kernel
theorem dX1_clean_20 : decode cX1_clean 20 = .ok (.putfield 31, 3) := by decide +kernel
theorem dX1_clean_23 : decode cX1_clean 23 = .ok (.iload_n 2, 1) := by decide +kernel
theorem dX1_clean_24 : decode cX1_clean 24 = .ok (.ireturn, 1) := by decide +kernel
set_option maxRecDepth 20000 in
theorem ggX1_cleanVictim_X1_clean : GoodIn wsX1_cleanVictim wsX1_clean := goodIn_r _ [6, 7, 8, 9, 10, 11, 5, 12, 13, 14, 15, 16, 17, 18, 19, 20, 21, 22, 23, 24] (by decide +kernel) (by decide +kernel)
set_option maxRecDepth 20000 in
theorem gX1_cleanVictim_X1_clean : GoodIn wsX1_cleanVictim (wsV RX1 64 RX1 yX1_clean wsX1_clean) := goodIn_app (goodIn_of _ (by decide +kernel)) ggX1_cleanVictim_X1_clean
theorem dX1_cleanVictim_0 : decode cX1_cleanVictim 0 = .ok (.iload_n 1, 1) := by decide +kernel
theorem dX1_cleanVictim_1 : decode cX1_cleanVictim 1 = .ok (.iconst (-1), 1) := by decide +kernel
theorem dX1_cleanVictim_2 : decode cX1_cleanVictim 2 = .ok (.if_icmp .eq 11, 3) := by decide +kernel
theorem dX1_cleanVictim_5 : decode cX1_cleanVictim 5 = .ok (.aload_n 0, 1) := by decide +kernel
theorem dX1_cleanVictim_6 : decode cX1_cleanVictim 6 = .ok (.iload_n 1, 1) := by decide +kernel
theorem dX1_cleanVictim_7 : decode cX1_cleanVictim 7 = .ok (.invokevirtual 64, 3) := by decide +kernel
theorem dX1_cleanVictim_10 : decode cX1_cleanVictim 10 = .ok (.ifCond .ne 5, 3) := by decide +kernel
theorem dX1_cleanVictim_13 : decode cX1_cleanVictim 13 = .ok (.iconst 0, 1) := by decide +kernel
theorem dX1_cleanVictim_14 : decode cX1_cleanVictim 14 = .ok (.ireturn, 1) := by decide +kernel
theorem dX1_cleanVictim_15 : decode cX1_cleanVictim 15 = .ok (.aload_n 0, 1) := by decide +kernel
theorem dX1_cleanVictim_16 : decode cX1_cleanVictim 16 = .ok (.dup, 1) := by decide +kernel
theorem dX1_cleanVictim_17 : decode cX1_cleanVictim 17 = .ok (.getfield 44, 3) := by decide +kernel
theorem dX1_cleanVictim_20 : decode cX1_cleanVictim 20 = .ok (.iconst 1, 1) := by decide +kernel
theorem dX1_cleanVictim_21 : decode cX1_cleanVictim 21 = .ok (.iadd, 1) := by decide +kernel
theorem dX1_cleanVictim_22 : decode cX1_cleanVictim 22 = .ok (.putfield 44, 3) := by decide +kernel
theorem dX1_cleanVictim_25 : decode cX1_cleanVictim 25 = .ok (.iconst 1, 1) := by decide +kernel
theorem dX1_cleanVictim_26 : decode cX1_cleanVictim 26 = .ok (.ireturn, 1) := by decide +kernel
set_option maxRecDepth 20000 in
theorem ggX1_touch_X1_holds : GoodIn wsX1_touch wsX1_holds := goodIn_r _ [8, 3, 9, 10, 11, 12, 13, 14, 15, 16, 17, 18, 19, 20, 112, 113, 114, 115, 116, 117, 118, 119, 120, 121, 122] (by decide +kernel) (by decide +kernel)
set_option maxRecDepth 20000 in
theorem gX1_touch_X1_holds : GoodIn wsX1_touch (wsV RX1 67 RX1 yX1_holds wsX1_holds) := goodIn_app (goodIn_of _ (by decide +kernel)) ggX1_touch_X1_holds
set_option maxRecDepth 20000 in
theorem ggX1_touch_X1_touchRecent : GoodIn wsX1_touch wsX1_touchRecent := goodIn_r _ [24, 9, 25, 26, 27, 28, 13, 29, 19, 20, 30, 31, 32, 33, 15, 16, 17, 18, 34, 35, 36, 37, 38, 39, 40, 41, 42, 43, 44, 45, 112, 113, 114, 115, 116, 117, 118, 119, 120, 121, 122] (by decide +kernel) (by decide +kernel)
set_option maxRecDepth 20000 in
theorem gX1_touch_X1_touchRecent : GoodIn wsX1_touch (wsV RX1 70 RX1 yX1_touchRecent wsX1_touchRecent) := goodIn_app (goodIn_of _ (by decide +kernel)) ggX1_touch_X1_touchRecent
set_option maxRecDepth 20000 in
theorem ggX1_touch_X1_touchClock : GoodIn wsX1_touch wsX1_touchClock := goodIn_r _ [49, 9, 50, 25, 10, 11, 12, 13, 14, 15, 16, 17, 18, 19, 20, 51, 52, 7, 53, 34, 35, 36, 37, 54, 55, 56, 57, 58, 59, 60, 61, 62, 63, 64, 65, 66, 67, 68, 69, 70, 71, 72, 27, 28, 29, 30, 31, 32, 33, 73, 74, 75, 76, 112, 113, 114, 115, 116, 117, 118, 119, 120, 121, 122] (by decide +kernel) (by decide +kernel)
set_option maxRecDepth 20000 in
theorem gX1_touch_X1_touchClock : GoodIn wsX1_touch (wsV RX1 73 RX1 yX1_touchClock wsX1_touchClock) := goodIn_app (goodIn_of _ (by decide +kernel)) ggX1_touch_X1_touchClock
set_option maxRecDepth 20000 in
theorem ggX1_touch_X1_touchQueues : GoodIn wsX1_touch wsX1_touchQueues := goodIn_r _ [80, 9, 26, 27, 28, 13, 29, 19, 20, 30, 31, 32, 33, 15, 16, 17, 18, 42, 43, 44, 45, 10, 11, 12, 14, 81, 82, 83, 7, 84, 25, 85, 86, 87, 88, 34, 35, 36, 37, 38, 39, 40, 41, 112, 113, 114, 115, 116, 117, 118, 119, 120, 121, 122] (by decide +kernel) (by decide +kernel)
set_option maxRecDepth 20000 in
theorem gX1_touch_X1_touchQueues : GoodIn wsX1_touch (wsV RX1 76 RX1 yX1_touchQueues wsX1_touchQueues) := goodIn_app (goodIn_of _ (by decide +kernel)) ggX1_touch_X1_touchQueues
set_option maxRecDepth 20000 in
theorem ggX1_touch_X1_touchBalanced : GoodIn wsX1_touch wsX1_touchBalanced := goodIn_r _ [92, 9, 25, 93, 94, 95, 87, 96, 85, 86, 88, 26, 27, 28, 13, 29, 19, 20, 30, 31, 32, 33, 15, 16, 17, 18, 42, 43, 44, 45, 10, 11, 12, 14, 97, 98, 7, 99, 34, 35, 36, 37, 100, 101, 102, 103, 104, 105, 106, 107, 38, 39, 40, 41, 108, 109, 110, 111, 112, 113, 114, 115, 116, 117, 118, 119, 120, 121, 122] (by decide +kernel) (by decide +kernel)
set_option maxRecDepth 20000 in
theorem gX1_touch_X1_touchBalanced : GoodIn wsX1_touch (wsV RX1 79 RX1 yX1_touchBalanced wsX1_touchBalanced) := goodIn_app (goodIn_of _ (by decide +kernel)) ggX1_touch_X1_touchBalanced
theorem dX1_touch_0 : decode cX1_touch 0 = .ok (.aload_n 0, 1) := by decide +kernel
theorem dX1_touch_1 : decode cX1_touch 1 = .ok (.iload_n 1, 1) := by decide +kernel
theorem dX1_touch_2 : decode cX1_touch 2 = .ok (.invokevirtual 67, 3) := by decide +kernel
theorem dX1_touch_5 : decode cX1_touch 5 = .ok (.ifCond .eq 16, 3) := by decide +kernel
theorem dX1_touch_8 : decode cX1_touch 8 = .ok (.aload_n 0, 1) := by decide +kernel
theorem dX1_touch_9 : decode cX1_touch 9 = .ok (.dup, 1) := by decide +kernel
theorem dX1_touch_10 : decode cX1_touch 10 = .ok (.getfield 38, 3) := by decide +kernel
theorem dX1_touch_13 : decode cX1_touch 13 = .ok (.iconst 1, 1) := by decide +kernel
theorem dX1_touch_14 : decode cX1_touch 14 = .ok (.iadd, 1) := by decide +kernel
theorem dX1_touch_15 : decode cX1_touch 15 = .ok (.putfield 38, 3) := by decide +kernel
theorem dX1_touch_18 : decode cX1_touch 18 = .ok (.goto 13, 3) := by decide +kernel
theorem dX1_touch_21 : decode cX1_touch 21 = .ok (.aload_n 0, 1) := by decide +kernel
theorem dX1_touch_22 : decode cX1_touch 22 = .ok (.dup, 1) := by decide +kernel
theorem dX1_touch_23 : decode cX1_touch 23 = .ok (.getfield 41, 3) := by decide +kernel
theorem dX1_touch_26 : decode cX1_touch 26 = .ok (.iconst 1, 1) := by decide +kernel
theorem dX1_touch_27 : decode cX1_touch 27 = .ok (.iadd, 1) := by decide +kernel
theorem dX1_touch_28 : decode cX1_touch 28 = .ok (.putfield 41, 3) := by decide +kernel
theorem dX1_touch_31 : decode cX1_touch 31 = .ok (.aload_n 0, 1) := by decide +kernel
theorem dX1_touch_32 : decode cX1_touch 32 = .ok (.getfield 18, 3) := by decide +kernel
theorem dX1_touch_35 : decode cX1_touch 35 = .ok (.tableswitch 43 0 2 #[25, 31, 37], 25) := by decide +kernel
theorem dX1_touch_60 : decode cX1_touch 60 = .ok (.aload_n 0, 1) := by decide +kernel
theorem dX1_touch_61 : decode cX1_touch 61 = .ok (.iload_n 1, 1) := by decide +kernel
theorem dX1_touch_62 : decode cX1_touch 62 = .ok (.invokevirtual 70, 3) := by decide +kernel
theorem dX1_touch_65 : decode cX1_touch 65 = .ok (.ireturn, 1) := by decide +kernel
theorem dX1_touch_66 : decode cX1_touch 66 = .ok (.aload_n 0, 1) := by decide +kernel
theorem dX1_touch_67 : decode cX1_touch 67 = .ok (.iload_n 1, 1) := by decide +kernel
theorem dX1_touch_68 : decode cX1_touch 68 = .ok (.invokevirtual 73, 3) := by decide +kernel
theorem dX1_touch_71 : decode cX1_touch 71 = .ok (.ireturn, 1) := by decide +kernel
theorem dX1_touch_72 : decode cX1_touch 72 = .ok (.aload_n 0, 1) := by decide +kernel
theorem dX1_touch_73 : decode cX1_touch 73 = .ok (.iload_n 1, 1) := by decide +kernel
theorem dX1_touch_74 : decode cX1_touch 74 = .ok (.invokevirtual 76, 3) := by decide +kernel
theorem dX1_touch_77 : decode cX1_touch 77 = .ok (.ireturn, 1) := by decide +kernel
theorem dX1_touch_78 : decode cX1_touch 78 = .ok (.aload_n 0, 1) := by decide +kernel
theorem dX1_touch_79 : decode cX1_touch 79 = .ok (.iload_n 1, 1) := by decide +kernel
theorem dX1_touch_80 : decode cX1_touch 80 = .ok (.invokevirtual 79, 3) := by decide +kernel
theorem dX1_touch_83 : decode cX1_touch 83 = .ok (.ireturn, 1) := by decide +kernel
set_option maxRecDepth 20000 in
theorem ggX1_touchRecent_X0_remove : GoodIn wsX1_touchRecent wsX0_remove := goodIn_r _ [7, 8, 9, 10, 11, 12, 13, 14, 15, 16, 6, 17, 39, 40] (by decide +kernel) (by decide +kernel)
set_option maxRecDepth 20000 in
theorem gX1_touchRecent_X0_remove : GoodIn wsX1_touchRecent (wsV RX1 82 RX0 yX0_remove wsX0_remove) := goodIn_app (goodIn_of _ (by decide +kernel)) ggX1_touchRecent_X0_remove
set_option maxRecDepth 20000 in
theorem ggX1_touchRecent_X0_size : GoodIn wsX1_touchRecent wsX0_size := goodIn_r _ [21, 8, 39, 40] (by decide +kernel) (by decide +kernel)
set_option maxRecDepth 20000 in
theorem gX1_touchRecent_X0_size : GoodIn wsX1_touchRecent (wsV RX1 85 RX0 yX0_size wsX0_size) := goodIn_app (goodIn_of _ (by decide +kernel)) ggX1_touchRecent_X0_size
set_option maxRecDepth 20000 in
theorem ggX1_touchRecent_X0_takeTail : GoodIn wsX1_touchRecent wsX0_takeTail := goodIn_r _ [25, 8, 9, 39, 40] (by decide +kernel) (by decide +kernel)
set_option maxRecDepth 20000 in
theorem gX1_touchRecent_X0_takeTail : GoodIn wsX1_touchRecent (wsV RX1 89 RX0 yX0_takeTail wsX0_takeTail) := goodIn_app (goodIn_of _ (by decide +kernel)) ggX1_touchRecent_X0_takeTail
set_option maxRecDepth 20000 in
theorem ggX1_touchRecent_X0_addHead : GoodIn wsX1_touchRecent wsX0_addHead := goodIn_r _ [29, 8, 9, 10, 11, 12, 13, 39, 40] (by decide +kernel) (by decide +kernel)
set_option maxRecDepth 20000 in
theorem gX1_touchRecent_X0_addHead : GoodIn wsX1_touchRecent (wsV RX1 92 RX0 yX0_addHead wsX0_addHead) := goodIn_app (goodIn_of _ (by decide +kernel)) ggX1_touchRecent_X0_addHead
theorem dX1_touchRecent_0 : decode cX1_touchRecent 0 = .ok (.aload_n 0, 1) := by decide +kernel
theorem dX1_touchRecent_1 : decode cX1_touchRecent 1 = .ok (.getfield 13, 3) := by decide +kernel
theorem dX1_touchRecent_4 : decode cX1_touchRecent 4 = .ok (.iconst 0, 1) := by decide +kernel
theorem dX1_touchRecent_5 : decode cX1_touchRecent 5 = .ok (.aaload, 1) := by decide +kernel
theorem dX1_touchRecent_6 : decode cX1_touchRecent 6 = .ok (.astore_n 2, 1) := by decide +kernel
theorem dX1_touchRecent_7 : decode cX1_touchRecent 7 = .ok (.iconst (-1), 1) := by decide +kernel
theorem dX1_touchRecent_8 : decode cX1_touchRecent 8 = .ok (.istore_n 3, 1) := by decide +kernel
theorem dX1_touchRecent_9 : decode cX1_touchRecent 9 = .ok (.aload_n 2, 1) := by decide +kernel
theorem dX1_touchRecent_10 : decode cX1_touchRecent 10 = .ok (.iload_n 1, 1) := by decide +kernel
theorem dX1_touchRecent_11 : decode cX1_touchRecent 11 = .ok (.invokevirtual 82, 3) := by decide +kernel
theorem dX1_touchRecent_14 : decode cX1_touchRecent 14 = .ok (.ifCond .ne 19, 3) := by decide +kernel
theorem dX1_touchRecent_17 : decode cX1_touchRecent 17 = .ok (.aload_n 2, 1) := by decide +kernel
theorem dX1_touchRecent_18 : decode cX1_touchRecent 18 = .ok (.invokevirtual 85, 3) := by decide +kernel
theorem dX1_touchRecent_21 : decode cX1_touchRecent 21 = .ok (.aload_n 0, 1) := by decide +kernel
theorem dX1_touchRecent_22 : decode cX1_touchRecent 22 = .ok (.getfield 22, 3) := by decide +kernel
theorem dX1_touchRecent_25 : decode cX1_touchRecent 25 = .ok (.if_icmp .ne 8, 3) := by decide +kernel
theorem dX1_touchRecent_28 : decode cX1_touchRecent 28 = .ok (.aload_n 2, 1) := by decide +kernel
theorem dX1_touchRecent_29 : decode cX1_touchRecent 29 = .ok (.invokevirtual 89, 3) := by decide +kernel
theorem dX1_touchRecent_32 : decode cX1_touchRecent 32 = .ok (.istore_n 3, 1) := by decide +kernel
theorem dX1_touchRecent_33 : decode cX1_touchRecent 33 = .ok (.aload_n 2, 1) := by decide +kernel
theorem dX1_touchRecent_34 : decode cX1_touchRecent 34 = .ok (.iload_n 1, 1) := by decide +kernel
theorem dX1_touchRecent_35 : decode cX1_touchRecent 35 = .ok (.invokevirtual 92, 3) := by decide +kernel
theorem dX1_touchRecent_38 : decode cX1_touchRecent 38 = .ok (.iload_n 3, 1) := by decide +kernel
theorem dX1_touchRecent_39 : decode cX1_touchRecent 39 = .ok (.ireturn, 1) := by decide +kernel
set_option maxRecDepth 20000 in
theorem ggX1_touchClock_X0_has : GoodIn wsX1_touchClock wsX0_has := goodIn_r _ [8, 9, 10, 11, 7, 12, 13, 14, 62, 63] (by decide +kernel) (by decide +kernel)
set_option maxRecDepth 20000 in
theorem gX1_touchClock_X0_has : GoodIn wsX1_touchClock (wsV RX1 47 RX0 yX0_has wsX0_has) := goodIn_app (goodIn_of _ (by decide +kernel)) ggX1_touchClock_X0_has
set_option maxRecDepth 20000 in
theorem ggX1_touchClock_X1_bit : GoodIn wsX1_touchClock wsX1_bit := goodIn_r _ [18] (by decide +kernel) (by decide +kernel)
set_option maxRecDepth 20000 in
theorem gX1_touchClock_X1_bit : GoodIn wsX1_touchClock (va_wsS RX1 51 yX1_bit wsX1_bit) := goodIn_app (goodIn_of _ (by decide +kernel)) ggX1_touchClock_X1_bit
set_option maxRecDepth 20000 in
theorem ggX1_touchClock_X0_size : GoodIn wsX1_touchClock wsX0_size := goodIn_r _ [22, 13, 62, 63] (by decide +kernel) (by decide +kernel)
set_option maxRecDepth 20000 in
theorem gX1_touchClock_X0_size : GoodIn wsX1_touchClock (wsV RX1 85 RX0 yX0_size wsX0_size) := goodIn_app (goodIn_of _ (by decide +kernel)) ggX1_touchClock_X0_size
set_option maxRecDepth 20000 in
theorem ggX1_touchClock_X1_spareMarked : GoodIn wsX1_touchClock wsX1_spareMarked := goodIn_r _ [26, 2, 27, 19, 20, 21, 7, 22, 13, 28, 29, 30, 31, 14, 32, 33, 34, 17, 35, 15, 16, 18, 36, 37, 38, 39, 40, 41, 42, 43, 44, 45, 46, 47, 48, 9, 10, 11, 12, 49, 50, 51, 52, 53, 54, 55, 56, 57, 58, 59, 60, 61, 62, 63] (by decide +kernel) (by decide +kernel)
set_option maxRecDepth 20000 in
theorem gX1_touchClock_X1_spareMarked : GoodIn wsX1_touchClock (wsV RX1 96 RX1 yX1_spareMarked wsX1_spareMarked) := goodIn_app (goodIn_of _ (by decide +kernel)) ggX1_touchClock_X1_spareMarked
set_option maxRecDepth 20000 in
theorem ggX1_touchClock_X0_takeHead : GoodIn wsX1_touchClock wsX0_takeHead := goodIn_r _ [39, 40, 29, 30, 7, 31, 13, 14, 41, 42, 43, 44, 45, 46, 47, 48, 9, 10, 11, 12, 62, 63] (by decide +kernel) (by decide +kernel)
set_option maxRecDepth 20000 in
theorem gX1_touchClock_X0_takeHead : GoodIn wsX1_touchClock (wsV RX1 100 RX0 yX0_takeHead wsX0_takeHead) := goodIn_app (goodIn_of _ (by decide +kernel)) ggX1_touchClock_X0_takeHead
set_option maxRecDepth 20000 in
theorem ggX1_touchClock_X0_addTail : GoodIn wsX1_touchClock wsX0_addTail := goodIn_r _ [52, 13, 14, 62, 63] (by decide +kernel) (by decide +kernel)
set_option maxRecDepth 20000 in
theorem gX1_touchClock_X0_addTail : GoodIn wsX1_touchClock (wsV RX1 103 RX0 yX0_addTail wsX0_addTail) := goodIn_app (goodIn_of _ (by decide +kernel)) ggX1_touchClock_X0_addTail
theorem dX1_touchClock_0 : decode cX1_touchClock 0 = .ok (.aload_n 0, 1) := by decide +kernel
theorem dX1_touchClock_1 : decode cX1_touchClock 1 = .ok (.getfield 13, 3) := by decide +kernel
theorem dX1_touchClock_4 : decode cX1_touchClock 4 = .ok (.iconst 0, 1) := by decide +kernel
theorem dX1_touchClock_5 : decode cX1_touchClock 5 = .ok (.aaload, 1) := by decide +kernel
theorem dX1_touchClock_6 : decode cX1_touchClock 6 = .ok (.astore_n 2, 1) := by decide +kernel
theorem dX1_touchClock_7 : decode cX1_touchClock 7 = .ok (.aload_n 2, 1) := by decide +kernel
theorem dX1_touchClock_8 : decode cX1_touchClock 8 = .ok (.iload_n 1, 1) := by decide +kernel
theorem dX1_touchClock_9 : decode cX1_touchClock 9 = .ok (.invokevirtual 47, 3) := by decide +kernel
theorem dX1_touchClock_12 : decode cX1_touchClock 12 = .ok (.ifCond .eq 18, 3) := by decide +kernel
theorem dX1_touchClock_15 : decode cX1_touchClock 15 = .ok (.aload_n 0, 1) := by decide +kernel
theorem dX1_touchClock_16 : decode cX1_touchClock 16 = .ok (.dup, 1) := by decide +kernel
theorem dX1_touchClock_17 : decode cX1_touchClock 17 = .ok (.getfield 35, 3) := by decide +kernel
theorem dX1_touchClock_20 : decode cX1_touchClock 20 = .ok (.iload_n 1, 1) := by decide +kernel
theorem dX1_touchClock_21 : decode cX1_touchClock 21 = .ok (.invokestatic 51, 3) := by decide +kernel
theorem dX1_touchClock_24 : decode cX1_touchClock 24 = .ok (.lor, 1) := by decide +kernel
theorem dX1_touchClock_25 : decode cX1_touchClock 25 = .ok (.putfield 35, 3) := by decide +kernel
theorem dX1_touchClock_28 : decode cX1_touchClock 28 = .ok (.iconst (-1), 1) := by decide +kernel
theorem dX1_touchClock_29 : decode cX1_touchClock 29 = .ok (.ireturn, 1) := by decide +kernel
theorem dX1_touchClock_30 : decode cX1_touchClock 30 = .ok (.iconst (-1), 1) := by decide +kernel
theorem dX1_touchClock_31 : decode cX1_touchClock 31 = .ok (.istore_n 3, 1) := by decide +kernel
theorem dX1_touchClock_32 : decode cX1_touchClock 32 = .ok (.aload_n 2, 1) := by decide +kernel
theorem dX1_touchClock_33 : decode cX1_touchClock 33 = .ok (.invokevirtual 85, 3) := by decide +kernel
theorem dX1_touchClock_36 : decode cX1_touchClock 36 = .ok (.aload_n 0, 1) := by decide +kernel
theorem dX1_touchClock_37 : decode cX1_touchClock 37 = .ok (.getfield 22, 3) := by decide +kernel
theorem dX1_touchClock_40 : decode cX1_touchClock 40 = .ok (.if_icmp .ne 13, 3) := by decide +kernel
theorem dX1_touchClock_43 : decode cX1_touchClock 43 = .ok (.aload_n 0, 1) := by decide +kernel
theorem dX1_touchClock_44 : decode cX1_touchClock 44 = .ok (.aload_n 2, 1) := by decide +kernel
theorem dX1_touchClock_45 : decode cX1_touchClock 45 = .ok (.invokevirtual 96, 3) := by decide +kernel
theorem dX1_touchClock_48 : decode cX1_touchClock 48 = .ok (.aload_n 2, 1) := by decide +kernel
theorem dX1_touchClock_49 : decode cX1_touchClock 49 = .ok (.invokevirtual 100, 3) := by decide +kernel
theorem dX1_touchClock_52 : decode cX1_touchClock 52 = .ok (.istore_n 3, 1) := by decide +kernel
theorem dX1_touchClock_53 : decode cX1_touchClock 53 = .ok (.aload_n 2, 1) := by decide +kernel
theorem dX1_touchClock_54 : decode cX1_touchClock 54 = .ok (.iload_n 1, 1) := by decide +kernel
theorem dX1_touchClock_55 : decode cX1_touchClock 55 = .ok (.invokevirtual 103, 3) := by decide +kernel
theorem dX1_touchClock_58 : decode cX1_touchClock 58 = .ok (.iload_n 3, 1) := by decide +kernel
theorem dX1_touchClock_59 : decode cX1_touchClock 59 = .ok (.ireturn, 1) := by decide +kernel
set_option maxRecDepth 20000 in
theorem ggX1_spareMarked_X0_size : GoodIn wsX1_spareMarked wsX0_size := goodIn_r _ [7, 8, 52, 53] (by decide +kernel) (by decide +kernel)
set_option maxRecDepth 20000 in
theorem gX1_spareMarked_X0_size : GoodIn wsX1_spareMarked (wsV RX1 85 RX0 yX0_size wsX0_size) := goodIn_app (goodIn_of _ (by decide +kernel)) ggX1_spareMarked_X0_size
set_option maxRecDepth 20000 in
theorem ggX1_spareMarked_X0_at : GoodIn wsX1_spareMarked wsX0_at := goodIn_r _ [12, 8, 13, 52, 53] (by decide +kernel) (by decide +kernel)
set_option maxRecDepth 20000 in
theorem gX1_spareMarked_X0_at : GoodIn wsX1_spareMarked (wsV RX1 55 RX0 yX0_at wsX0_at) := goodIn_app (goodIn_of _ (by decide +kernel)) ggX1_spareMarked_X0_at
set_option maxRecDepth 20000 in
theorem ggX1_spareMarked_X1_isMarked : GoodIn wsX1_spareMarked wsX1_isMarked := goodIn_r _ [18, 1, 19, 20, 17, 21, 43, 44, 45, 46, 47, 48, 49, 50, 51] (by decide +kernel) (by decide +kernel)
set_option maxRecDepth 20000 in
theorem gX1_spareMarked_X1_isMarked : GoodIn wsX1_spareMarked (wsV RX1 106 RX1 yX1_isMarked wsX1_isMarked) := goodIn_app (goodIn_of _ (by decide +kernel)) ggX1_spareMarked_X1_isMarked
set_option maxRecDepth 20000 in
theorem ggX1_spareMarked_X0_takeHead : GoodIn wsX1_spareMarked wsX0_takeHead := goodIn_r _ [25, 26, 10, 11, 6, 12, 8, 13, 27, 28, 29, 30, 31, 32, 33, 34, 35, 36, 37, 38, 52, 53] (by decide +kernel) (by decide +kernel)
set_option maxRecDepth 20000 in
theorem gX1_spareMarked_X0_takeHead : GoodIn wsX1_spareMarked (wsV RX1 100 RX0 yX0_takeHead wsX0_takeHead) := goodIn_app (goodIn_of _ (by decide +kernel)) ggX1_spareMarked_X0_takeHead
set_option maxRecDepth 20000 in
theorem ggX1_spareMarked_X1_bit : GoodIn wsX1_spareMarked wsX1_bit := goodIn_r _ [21] (by decide +kernel) (by decide +kernel)
set_option maxRecDepth 20000 in
theorem gX1_spareMarked_X1_bit : GoodIn wsX1_spareMarked (va_wsS RX1 51 yX1_bit wsX1_bit) := goodIn_app (goodIn_of _ (by decide +kernel)) ggX1_spareMarked_X1_bit
set_option maxRecDepth 20000 in
theorem ggX1_spareMarked_X0_addTail : GoodIn wsX1_spareMarked wsX0_addTail := goodIn_r _ [42, 8, 13, 52, 53] (by decide +kernel) (by decide +kernel)
set_option maxRecDepth 20000 in
theorem gX1_spareMarked_X0_addTail : GoodIn wsX1_spareMarked (wsV RX1 103 RX0 yX0_addTail wsX0_addTail) := goodIn_app (goodIn_of _ (by decide +kernel)) ggX1_spareMarked_X0_addTail
theorem dX1_spareMarked_0 : decode cX1_spareMarked 0 = .ok (.aload_n 1, 1) := by decide +kernel
theorem dX1_spareMarked_1 : decode cX1_spareMarked 1 = .ok (.invokevirtual 85, 3) := by decide +kernel
theorem dX1_spareMarked_4 : decode cX1_spareMarked 4 = .ok (.istore_n 2, 1) := by decide +kernel
theorem dX1_spareMarked_5 : decode cX1_spareMarked 5 = .ok (.iconst 0, 1) := by decide +kernel
theorem dX1_spareMarked_6 : decode cX1_spareMarked 6 = .ok (.istore_n 3, 1) := by decide +kernel
theorem dX1_spareMarked_7 : decode cX1_spareMarked 7 = .ok (.iload_n 3, 1) := by decide +kernel
theorem dX1_spareMarked_8 : decode cX1_spareMarked 8 = .ok (.iload_n 2, 1) := by decide +kernel
theorem dX1_spareMarked_9 : decode cX1_spareMarked 9 = .ok (.if_icmp .ge 51, 3) := by decide +kernel
theorem dX1_spareMarked_12 : decode cX1_spareMarked 12 = .ok (.aload_n 0, 1) := by decide +kernel
theorem dX1_spareMarked_13 : decode cX1_spareMarked 13 = .ok (.aload_n 1, 1) := by decide +kernel
theorem dX1_spareMarked_14 : decode cX1_spareMarked 14 = .ok (.iconst 0, 1) := by decide +kernel
theorem dX1_spareMarked_15 : decode cX1_spareMarked 15 = .ok (.invokevirtual 55, 3) := by decide +kernel
theorem dX1_spareMarked_18 : decode cX1_spareMarked 18 = .ok (.invokevirtual 106, 3) := by decide +kernel
theorem dX1_spareMarked_21 : decode cX1_spareMarked 21 = .ok (.ifCond .eq 39, 3) := by decide +kernel
theorem dX1_spareMarked_24 : decode cX1_spareMarked 24 = .ok (.aload_n 1, 1) := by decide +kernel
theorem dX1_spareMarked_25 : decode cX1_spareMarked 25 = .ok (.invokevirtual 100, 3) := by decide +kernel
theorem dX1_spareMarked_28 : decode cX1_spareMarked 28 = .ok (.istore 4, 2) := by decide +kernel
theorem dX1_spareMarked_30 : decode cX1_spareMarked 30 = .ok (.aload_n 0, 1) := by decide +kernel
theorem dX1_spareMarked_31 : decode cX1_spareMarked 31 = .ok (.dup, 1) := by decide +kernel
theorem dX1_spareMarked_32 : decode cX1_spareMarked 32 = .ok (.getfield 35, 3) := by decide +kernel
theorem dX1_spareMarked_35 : decode cX1_spareMarked 35 = .ok (.iload 4, 2) := by decide +kernel
theorem dX1_spareMarked_37 : decode cX1_spareMarked 37 = .ok (.invokestatic 51, 3) := by decide +kernel
theorem dX1_spareMarked_40 : decode cX1_spareMarked 40 = .ok (.ldc2_w 62, 3) := by decide +kernel
theorem dX1_spareMarked_43 : decode cX1_spareMarked 43 = .ok (.lxor, 1) := by decide +kernel
theorem dX1_spareMarked_44 : decode cX1_spareMarked 44 = .ok (.land, 1) := by decide +kernel
theorem dX1_spareMarked_45 : decode cX1_spareMarked 45 = .ok (.putfield 35, 3) := by decide +kernel
theorem dX1_spareMarked_48 : decode cX1_spareMarked 48 = .ok (.aload_n 1, 1) := by decide +kernel
theorem dX1_spareMarked_49 : decode cX1_spareMarked 49 = .ok (.iload 4, 2) := by decide +kernel
theorem dX1_spareMarked_51 : decode cX1_spareMarked 51 = .ok (.invokevirtual 103, 3) := by decide +kernel
theorem dX1_spareMarked_54 : decode cX1_spareMarked 54 = .ok (.iinc 3 1, 3) := by decide +kernel
theorem dX1_spareMarked_57 : decode cX1_spareMarked 57 = .ok (.goto (-50), 3) := by decide +kernel
theorem dX1_spareMarked_60 : decode cX1_spareMarked 60 = .ok (.return_, 1) := by decide +kernel
set_option maxRecDepth 20000 in
theorem ggX1_touchQueues_X0_remove : GoodIn wsX1_touchQueues wsX0_remove := goodIn_r _ [6, 7, 8, 9, 10, 11, 12, 13, 14, 15, 5, 16, 52, 53] (by decide +kernel) (by decide +kernel)
set_option maxRecDepth 20000 in
theorem gX1_touchQueues_X0_remove : GoodIn wsX1_touchQueues (wsV RX1 82 RX0 yX0_remove wsX0_remove) := goodIn_app (goodIn_of _ (by decide +kernel)) ggX1_touchQueues_X0_remove
set_option maxRecDepth 20000 in
theorem ggX1_touchQueues_X0_addHead : GoodIn wsX1_touchQueues wsX0_addHead := goodIn_r _ [20, 7, 8, 9, 10, 11, 12, 52, 53] (by decide +kernel) (by decide +kernel)
set_option maxRecDepth 20000 in
theorem gX1_touchQueues_X0_addHead : GoodIn wsX1_touchQueues (wsV RX1 92 RX0 yX0_addHead wsX0_addHead) := goodIn_app (goodIn_of _ (by decide +kernel)) ggX1_touchQueues_X0_addHead
set_option maxRecDepth 20000 in
theorem ggX1_touchQueues_X0_has : GoodIn wsX1_touchQueues wsX0_has := goodIn_r _ [24, 13, 14, 15, 5, 16, 7, 8, 52, 53] (by decide +kernel) (by decide +kernel)
set_option maxRecDepth 20000 in
theorem gX1_touchQueues_X0_has : GoodIn wsX1_touchQueues (wsV RX1 47 RX0 yX0_has wsX0_has) := goodIn_app (goodIn_of _ (by decide +kernel)) ggX1_touchQueues_X0_has
set_option maxRecDepth 20000 in
theorem ggX1_touchQueues_X1_makeRoom : GoodIn wsX1_touchQueues wsX1_makeRoom := goodIn_r _ [29, 30, 31, 32, 33, 34, 35, 36, 37, 5, 38, 7, 39, 40, 41, 42, 8, 17, 18, 19, 20, 9, 10, 11, 12, 43, 44, 45, 46, 47, 48, 49, 50, 51, 52, 53] (by decide +kernel) (by decide +kernel)
set_option maxRecDepth 20000 in
theorem gX1_touchQueues_X1_makeRoom : GoodIn wsX1_touchQueues (wsV RX1 109 RX1 yX1_makeRoom wsX1_makeRoom) := goodIn_app (goodIn_of _ (by decide +kernel)) ggX1_touchQueues_X1_makeRoom
theorem dX1_touchQueues_0 : decode cX1_touchQueues 0 = .ok (.aload_n 0, 1) := by decide +kernel
theorem dX1_touchQueues_1 : decode cX1_touchQueues 1 = .ok (.getfield 13, 3) := by decide +kernel
theorem dX1_touchQueues_4 : decode cX1_touchQueues 4 = .ok (.iconst 0, 1) := by decide +kernel
theorem dX1_touchQueues_5 : decode cX1_touchQueues 5 = .ok (.aaload, 1) := by decide +kernel
theorem dX1_touchQueues_6 : decode cX1_touchQueues 6 = .ok (.astore_n 2, 1) := by decide +kernel
theorem dX1_touchQueues_7 : decode cX1_touchQueues 7 = .ok (.aload_n 0, 1) := by decide +kernel
theorem dX1_touchQueues_8 : decode cX1_touchQueues 8 = .ok (.getfield 13, 3) := by decide +kernel
theorem dX1_touchQueues_11 : decode cX1_touchQueues 11 = .ok (.iconst 1, 1) := by decide +kernel
theorem dX1_touchQueues_12 : decode cX1_touchQueues 12 = .ok (.aaload, 1) := by decide +kernel
theorem dX1_touchQueues_13 : decode cX1_touchQueues 13 = .ok (.astore_n 3, 1) := by decide +kernel
theorem dX1_touchQueues_14 : decode cX1_touchQueues 14 = .ok (.aload_n 0, 1) := by decide +kernel
theorem dX1_touchQueues_15 : decode cX1_touchQueues 15 = .ok (.getfield 13, 3) := by decide +kernel
theorem dX1_touchQueues_18 : decode cX1_touchQueues 18 = .ok (.iconst 2, 1) := by decide +kernel
theorem dX1_touchQueues_19 : decode cX1_touchQueues 19 = .ok (.aaload, 1) := by decide +kernel
theorem dX1_touchQueues_20 : decode cX1_touchQueues 20 = .ok (.astore 4, 2) := by decide +kernel
theorem dX1_touchQueues_22 : decode cX1_touchQueues 22 = .ok (.aload 4, 2) := by decide +kernel
theorem dX1_touchQueues_24 : decode cX1_touchQueues 24 = .ok (.iload_n 1, 1) := by decide +kernel
theorem dX1_touchQueues_25 : decode cX1_touchQueues 25 = .ok (.invokevirtual 82, 3) := by decide +kernel
theorem dX1_touchQueues_28 : decode cX1_touchQueues 28 = .ok (.ifCond .eq 11, 3) := by decide +kernel
theorem dX1_touchQueues_31 : decode cX1_touchQueues 31 = .ok (.aload 4, 2) := by decide +kernel
theorem dX1_touchQueues_33 : decode cX1_touchQueues 33 = .ok (.iload_n 1, 1) := by decide +kernel
theorem dX1_touchQueues_34 : decode cX1_touchQueues 34 = .ok (.invokevirtual 92, 3) := by decide +kernel
theorem dX1_touchQueues_37 : decode cX1_touchQueues 37 = .ok (.iconst (-1), 1) := by decide +kernel
theorem dX1_touchQueues_38 : decode cX1_touchQueues 38 = .ok (.ireturn, 1) := by decide +kernel
theorem dX1_touchQueues_39 : decode cX1_touchQueues 39 = .ok (.aload_n 2, 1) := by decide +kernel
theorem dX1_touchQueues_40 : decode cX1_touchQueues 40 = .ok (.iload_n 1, 1) := by decide +kernel
theorem dX1_touchQueues_41 : decode cX1_touchQueues 41 = .ok (.invokevirtual 47, 3) := by decide +kernel
theorem dX1_touchQueues_44 : decode cX1_touchQueues 44 = .ok (.ifCond .eq 5, 3) := by decide +kernel
theorem dX1_touchQueues_47 : decode cX1_touchQueues 47 = .ok (.iconst (-1), 1) := by decide +kernel
theorem dX1_touchQueues_48 : decode cX1_touchQueues 48 = .ok (.ireturn, 1) := by decide +kernel
theorem dX1_touchQueues_49 : decode cX1_touchQueues 49 = .ok (.aload_n 3, 1) := by decide +kernel
theorem dX1_touchQueues_50 : decode cX1_touchQueues 50 = .ok (.iload_n 1, 1) := by decide +kernel
theorem dX1_touchQueues_51 : decode cX1_touchQueues 51 = .ok (.invokevirtual 82, 3) := by decide +kernel
theorem dX1_touchQueues_54 : decode cX1_touchQueues 54 = .ok (.ifCond .eq 8, 3) := by decide +kernel
theorem dX1_touchQueues_57 : decode cX1_touchQueues 57 = .ok (.aload 4, 2) := by decide +kernel
theorem dX1_touchQueues_59 : decode cX1_touchQueues 59 = .ok (.goto 4, 3) := by decide +kernel
theorem dX1_touchQueues_62 : decode cX1_touchQueues 62 = .ok (.aload_n 2, 1) := by decide +kernel
theorem dX1_touchQueues_63 : decode cX1_touchQueues 63 = .ok (.astore 5, 2) := by decide +kernel
theorem dX1_touchQueues_65 : decode cX1_touchQueues 65 = .ok (.aload_n 0, 1) := by decide +kernel
theorem dX1_touchQueues_66 : decode cX1_touchQueues 66 = .ok (.aload_n 2, 1) := by decide +kernel
theorem dX1_touchQueues_67 : decode cX1_touchQueues 67 = .ok (.aload_n 3, 1) := by decide +kernel
theorem dX1_touchQueues_68 : decode cX1_touchQueues 68 = .ok (.aload 4, 2) := by decide +kernel
theorem dX1_touchQueues_70 : decode cX1_touchQueues 70 = .ok (.invokevirtual 109, 3) := by decide +kernel
theorem dX1_touchQueues_73 : decode cX1_touchQueues 73 = .ok (.istore 6, 2) := by decide +kernel
theorem dX1_touchQueues_75 : decode cX1_touchQueues 75 = .ok (.aload 5, 2) := by decide +kernel
theorem dX1_touchQueues_77 : decode cX1_touchQueues 77 = .ok (.iload_n 1, 1) := by decide +kernel
theorem dX1_touchQueues_78 : decode cX1_touchQueues 78 = .ok (.invokevirtual 92, 3) := by decide +kernel
theorem dX1_touchQueues_81 : decode cX1_touchQueues 81 = .ok (.iload 6, 2) := by decide +kernel
theorem dX1_touchQueues_83 : decode cX1_touchQueues 83 = .ok (.ireturn, 1) := by decide +kernel
set_option maxRecDepth 20000 in
theorem ggX1_makeRoom_X0_size : GoodIn wsX1_makeRoom wsX0_size := goodIn_r _ [10, 11, 34, 35] (by decide +kernel) (by decide +kernel)
set_option maxRecDepth 20000 in
theorem gX1_makeRoom_X0_size : GoodIn wsX1_makeRoom (wsV RX1 85 RX0 yX0_size wsX0_size) := goodIn_app (goodIn_of _ (by decide +kernel)) ggX1_makeRoom_X0_size
set_option maxRecDepth 20000 in
theorem ggX1_makeRoom_X0_takeTail : GoodIn wsX1_makeRoom wsX0_takeTail := goodIn_r _ [15, 11, 16, 34, 35] (by decide +kernel) (by decide +kernel)
set_option maxRecDepth 20000 in
theorem gX1_makeRoom_X0_takeTail : GoodIn wsX1_makeRoom (wsV RX1 89 RX0 yX0_takeTail wsX0_takeTail) := goodIn_app (goodIn_of _ (by decide +kernel)) ggX1_makeRoom_X0_takeTail
set_option maxRecDepth 20000 in
theorem ggX1_makeRoom_X0_addHead : GoodIn wsX1_makeRoom wsX0_addHead := goodIn_r _ [20, 11, 16, 21, 22, 23, 24, 34, 35] (by decide +kernel) (by decide +kernel)
set_option maxRecDepth 20000 in
theorem gX1_makeRoom_X0_addHead : GoodIn wsX1_makeRoom (wsV RX1 92 RX0 yX0_addHead wsX0_addHead) := goodIn_app (goodIn_of _ (by decide +kernel)) ggX1_makeRoom_X0_addHead
theorem dX1_makeRoom_0 : decode cX1_makeRoom 0 = .ok (.aload_n 1, 1) := by decide +kernel
theorem dX1_makeRoom_1 : decode cX1_makeRoom 1 = .ok (.invokevirtual 85, 3) := by decide +kernel
theorem dX1_makeRoom_4 : decode cX1_makeRoom 4 = .ok (.aload_n 3, 1) := by decide +kernel
theorem dX1_makeRoom_5 : decode cX1_makeRoom 5 = .ok (.invokevirtual 85, 3) := by decide +kernel
theorem dX1_makeRoom_8 : decode cX1_makeRoom 8 = .ok (.iadd, 1) := by decide +kernel
theorem dX1_makeRoom_9 : decode cX1_makeRoom 9 = .ok (.aload_n 0, 1) := by decide +kernel
theorem dX1_makeRoom_10 : decode cX1_makeRoom 10 = .ok (.getfield 22, 3) := by decide +kernel
theorem dX1_makeRoom_13 : decode cX1_makeRoom 13 = .ok (.if_icmp .ge 5, 3) := by decide +kernel
theorem dX1_makeRoom_16 : decode cX1_makeRoom 16 = .ok (.iconst (-1), 1) := by decide +kernel
theorem dX1_makeRoom_17 : decode cX1_makeRoom 17 = .ok (.ireturn, 1) := by decide +kernel
theorem dX1_makeRoom_18 : decode cX1_makeRoom 18 = .ok (.aload_n 1, 1) := by decide +kernel
theorem dX1_makeRoom_19 : decode cX1_makeRoom 19 = .ok (.invokevirtual 85, 3) := by decide +kernel
theorem dX1_makeRoom_22 : decode cX1_makeRoom 22 = .ok (.aload_n 0, 1) := by decide +kernel
theorem dX1_makeRoom_23 : decode cX1_makeRoom 23 = .ok (.getfield 22, 3) := by decide +kernel
theorem dX1_makeRoom_26 : decode cX1_makeRoom 26 = .ok (.iconst 4, 1) := by decide +kernel
theorem dX1_makeRoom_27 : decode cX1_makeRoom 27 = .ok (.idiv, 1) := by decide +kernel
theorem dX1_makeRoom_28 : decode cX1_makeRoom 28 = .ok (.if_icmp .gt 8, 3) := by decide +kernel
theorem dX1_makeRoom_31 : decode cX1_makeRoom 31 = .ok (.aload_n 3, 1) := by decide +kernel
theorem dX1_makeRoom_32 : decode cX1_makeRoom 32 = .ok (.invokevirtual 89, 3) := by decide +kernel
theorem dX1_makeRoom_35 : decode cX1_makeRoom 35 = .ok (.ireturn, 1) := by decide +kernel
theorem dX1_makeRoom_36 : decode cX1_makeRoom 36 = .ok (.aload_n 1, 1) := by decide +kernel
theorem dX1_makeRoom_37 : decode cX1_makeRoom 37 = .ok (.invokevirtual 89, 3) := by decide +kernel
theorem dX1_makeRoom_40 : decode cX1_makeRoom 40 = .ok (.istore 4, 2) := by decide +kernel
theorem dX1_makeRoom_42 : decode cX1_makeRoom 42 = .ok (.aload_n 2, 1) := by decide +kernel
theorem dX1_makeRoom_43 : decode cX1_makeRoom 43 = .ok (.iload 4, 2) := by decide +kernel
theorem dX1_makeRoom_45 : decode cX1_makeRoom 45 = .ok (.invokevirtual 92, 3) := by decide +kernel
theorem dX1_makeRoom_48 : decode cX1_makeRoom 48 = .ok (.aload_n 2, 1) := by decide +kernel
theorem dX1_makeRoom_49 : decode cX1_makeRoom 49 = .ok (.invokevirtual 85, 3) := by decide +kernel
theorem dX1_makeRoom_52 : decode cX1_makeRoom 52 = .ok (.iconst 1, 1) := by decide +kernel
theorem dX1_makeRoom_53 : decode cX1_makeRoom 53 = .ok (.aload_n 0, 1) := by decide +kernel
theorem dX1_makeRoom_54 : decode cX1_makeRoom 54 = .ok (.getfield 22, 3) := by decide +kernel
theorem dX1_makeRoom_57 : decode cX1_makeRoom 57 = .ok (.iconst 2, 1) := by decide +kernel
theorem dX1_makeRoom_58 : decode cX1_makeRoom 58 = .ok (.idiv, 1) := by decide +kernel
theorem dX1_makeRoom_59 : decode cX1_makeRoom 59 = .ok (.invokestatic 113, 3) := by decide +kernel
theorem dX1_makeRoom_62 : decode cX1_makeRoom 62 = .ok (.if_icmp .le 8, 3) := by decide +kernel
theorem dX1_makeRoom_65 : decode cX1_makeRoom 65 = .ok (.aload_n 2, 1) := by decide +kernel
theorem dX1_makeRoom_66 : decode cX1_makeRoom 66 = .ok (.invokevirtual 89, 3) := by decide +kernel
theorem dX1_makeRoom_69 : decode cX1_makeRoom 69 = .ok (.pop, 1) := by decide +kernel
theorem dX1_makeRoom_70 : decode cX1_makeRoom 70 = .ok (.iload 4, 2) := by decide +kernel
theorem dX1_makeRoom_72 : decode cX1_makeRoom 72 = .ok (.ireturn, 1) := by decide +kernel
set_option maxRecDepth 20000 in
theorem ggX1_touchBalanced_X0_remove : GoodIn wsX1_touchBalanced wsX0_remove := goodIn_r _ [15, 16, 17, 18, 19, 20, 21, 22, 23, 24, 14, 25, 67, 68] (by decide +kernel) (by decide +kernel)
set_option maxRecDepth 20000 in
theorem gX1_touchBalanced_X0_remove : GoodIn wsX1_touchBalanced (wsV RX1 82 RX0 yX0_remove wsX0_remove) := goodIn_app (goodIn_of _ (by decide +kernel)) ggX1_touchBalanced_X0_remove
set_option maxRecDepth 20000 in
theorem ggX1_touchBalanced_X0_addHead : GoodIn wsX1_touchBalanced wsX0_addHead := goodIn_r _ [29, 16, 17, 18, 19, 20, 21, 67, 68] (by decide +kernel) (by decide +kernel)
set_option maxRecDepth 20000 in
theorem gX1_touchBalanced_X0_addHead : GoodIn wsX1_touchBalanced (wsV RX1 92 RX0 yX0_addHead wsX0_addHead) := goodIn_app (goodIn_of _ (by decide +kernel)) ggX1_touchBalanced_X0_addHead
set_option maxRecDepth 20000 in
theorem ggX1_touchBalanced_X0_has : GoodIn wsX1_touchBalanced wsX0_has := goodIn_r _ [33, 22, 23, 24, 14, 25, 16, 17, 67, 68] (by decide +kernel) (by decide +kernel)
set_option maxRecDepth 20000 in
theorem gX1_touchBalanced_X0_has : GoodIn wsX1_touchBalanced (wsV RX1 47 RX0 yX0_has wsX0_has) := goodIn_app (goodIn_of _ (by decide +kernel)) ggX1_touchBalanced_X0_has
set_option maxRecDepth 20000 in
theorem ggX1_touchBalanced_X1_goalStep : GoodIn wsX1_touchBalanced wsX1_goalStep := goodIn_r _ [37, 8, 9, 6, 10, 38, 39, 40, 14, 41, 16, 67, 68] (by decide +kernel) (by decide +kernel)
set_option maxRecDepth 20000 in
theorem gX1_touchBalanced_X1_goalStep : GoodIn wsX1_touchBalanced (va_wsS RX1 119 yX1_goalStep wsX1_goalStep) := goodIn_app (goodIn_of _ (by decide +kernel)) ggX1_touchBalanced_X1_goalStep
set_option maxRecDepth 20000 in
theorem ggX1_touchBalanced_X1_comeBack : GoodIn wsX1_touchBalanced wsX1_comeBack := goodIn_r _ [45, 1, 46, 47, 48, 36, 49, 3, 38, 39, 40, 14, 41, 16, 50, 51, 52, 53, 17, 26, 27, 28, 29, 18, 19, 20, 21, 11, 12, 13, 15, 22, 23, 24, 25, 58, 59, 60, 61, 62, 63, 64, 65, 66, 67, 68] (by decide +kernel) (by decide +kernel)
set_option maxRecDepth 20000 in
theorem gX1_touchBalanced_X1_comeBack : GoodIn wsX1_touchBalanced (wsV RX1 126 RX1 yX1_comeBack wsX1_comeBack) := goodIn_app (goodIn_of _ (by decide +kernel)) ggX1_touchBalanced_X1_comeBack
set_option maxRecDepth 20000 in
theorem ggX1_touchBalanced_X1_makeRoomForNew : GoodIn wsX1_touchBalanced wsX1_makeRoomForNew := goodIn_r _ [57, 1, 2, 38, 39, 40, 14, 41, 16, 50, 51, 52, 53, 17, 46, 47, 48, 36, 49, 3, 26, 27, 28, 29, 18, 19, 20, 21, 58, 59, 60, 61, 62, 63, 64, 65, 66, 67, 68] (by decide +kernel) (by decide +kernel)
set_option maxRecDepth 20000 in
theorem gX1_touchBalanced_X1_makeRoomForNew : GoodIn wsX1_touchBalanced (wsV RX1 130 RX1 yX1_makeRoomForNew wsX1_makeRoomForNew) := goodIn_app (goodIn_of _ (by decide +kernel)) ggX1_touchBalanced_X1_makeRoomForNew
theorem dX1_touchBalanced_0 : decode cX1_touchBalanced 0 = .ok (.aload_n 0, 1) := by decide +kernel
theorem dX1_touchBalanced_1 : decode cX1_touchBalanced 1 = .ok (.getfield 13, 3) := by decide +kernel
theorem dX1_touchBalanced_4 : decode cX1_touchBalanced 4 = .ok (.iconst 0, 1) := by decide +kernel
theorem dX1_touchBalanced_5 : decode cX1_touchBalanced 5 = .ok (.aaload, 1) := by decide +kernel
theorem dX1_touchBalanced_6 : decode cX1_touchBalanced 6 = .ok (.iload_n 1, 1) := by decide +kernel
theorem dX1_touchBalanced_7 : decode cX1_touchBalanced 7 = .ok (.invokevirtual 82, 3) := by decide +kernel
theorem dX1_touchBalanced_10 : decode cX1_touchBalanced 10 = .ok (.ifCond .ne 16, 3) := by decide +kernel
theorem dX1_touchBalanced_13 : decode cX1_touchBalanced 13 = .ok (.aload_n 0, 1) := by decide +kernel
theorem dX1_touchBalanced_14 : decode cX1_touchBalanced 14 = .ok (.getfield 13, 3) := by decide +kernel
theorem dX1_touchBalanced_17 : decode cX1_touchBalanced 17 = .ok (.iconst 1, 1) := by decide +kernel
theorem dX1_touchBalanced_18 : decode cX1_touchBalanced 18 = .ok (.aaload, 1) := by decide +kernel
theorem dX1_touchBalanced_19 : decode cX1_touchBalanced 19 = .ok (.iload_n 1, 1) := by decide +kernel
theorem dX1_touchBalanced_20 : decode cX1_touchBalanced 20 = .ok (.invokevirtual 82, 3) := by decide +kernel
theorem dX1_touchBalanced_23 : decode cX1_touchBalanced 23 = .ok (.ifCond .eq 15, 3) := by decide +kernel
theorem dX1_touchBalanced_26 : decode cX1_touchBalanced 26 = .ok (.aload_n 0, 1) := by decide +kernel
theorem dX1_touchBalanced_27 : decode cX1_touchBalanced 27 = .ok (.getfield 13, 3) := by decide +kernel
theorem dX1_touchBalanced_30 : decode cX1_touchBalanced 30 = .ok (.iconst 1, 1) := by decide +kernel
theorem dX1_touchBalanced_31 : decode cX1_touchBalanced 31 = .ok (.aaload, 1) := by decide +kernel
theorem dX1_touchBalanced_32 : decode cX1_touchBalanced 32 = .ok (.iload_n 1, 1) := by decide +kernel
theorem dX1_touchBalanced_33 : decode cX1_touchBalanced 33 = .ok (.invokevirtual 92, 3) := by decide +kernel
theorem dX1_touchBalanced_36 : decode cX1_touchBalanced 36 = .ok (.iconst (-1), 1) := by decide +kernel
theorem dX1_touchBalanced_37 : decode cX1_touchBalanced 37 = .ok (.ireturn, 1) := by decide +kernel
theorem dX1_touchBalanced_38 : decode cX1_touchBalanced 38 = .ok (.aload_n 0, 1) := by decide +kernel
theorem dX1_touchBalanced_39 : decode cX1_touchBalanced 39 = .ok (.getfield 13, 3) := by decide +kernel
theorem dX1_touchBalanced_42 : decode cX1_touchBalanced 42 = .ok (.iconst 2, 1) := by decide +kernel
theorem dX1_touchBalanced_43 : decode cX1_touchBalanced 43 = .ok (.aaload, 1) := by decide +kernel
theorem dX1_touchBalanced_44 : decode cX1_touchBalanced 44 = .ok (.iload_n 1, 1) := by decide +kernel
theorem dX1_touchBalanced_45 : decode cX1_touchBalanced 45 = .ok (.invokevirtual 47, 3) := by decide +kernel
theorem dX1_touchBalanced_48 : decode cX1_touchBalanced 48 = .ok (.ifCond .eq 47, 3) := by decide +kernel
theorem dX1_touchBalanced_51 : decode cX1_touchBalanced 51 = .ok (.aload_n 0, 1) := by decide +kernel
theorem dX1_touchBalanced_52 : decode cX1_touchBalanced 52 = .ok (.aload_n 0, 1) := by decide +kernel
theorem dX1_touchBalanced_53 : decode cX1_touchBalanced 53 = .ok (.getfield 22, 3) := by decide +kernel
theorem dX1_touchBalanced_56 : decode cX1_touchBalanced 56 = .ok (.aload_n 0, 1) := by decide +kernel
theorem dX1_touchBalanced_57 : decode cX1_touchBalanced 57 = .ok (.getfield 28, 3) := by decide +kernel
theorem dX1_touchBalanced_60 : decode cX1_touchBalanced 60 = .ok (.aload_n 0, 1) := by decide +kernel
theorem dX1_touchBalanced_61 : decode cX1_touchBalanced 61 = .ok (.getfield 13, 3) := by decide +kernel
theorem dX1_touchBalanced_64 : decode cX1_touchBalanced 64 = .ok (.iconst 3, 1) := by decide +kernel
theorem dX1_touchBalanced_65 : decode cX1_touchBalanced 65 = .ok (.aaload, 1) := by decide +kernel
theorem dX1_touchBalanced_66 : decode cX1_touchBalanced 66 = .ok (.aload_n 0, 1) := by decide +kernel
theorem dX1_touchBalanced_67 : decode cX1_touchBalanced 67 = .ok (.getfield 13, 3) := by decide +kernel
theorem dX1_touchBalanced_70 : decode cX1_touchBalanced 70 = .ok (.iconst 2, 1) := by decide +kernel
theorem dX1_touchBalanced_71 : decode cX1_touchBalanced 71 = .ok (.aaload, 1) := by decide +kernel
theorem dX1_touchBalanced_72 : decode cX1_touchBalanced 72 = .ok (.invokestatic 119, 3) := by decide +kernel
theorem dX1_touchBalanced_75 : decode cX1_touchBalanced 75 = .ok (.iadd, 1) := by decide +kernel
theorem dX1_touchBalanced_76 : decode cX1_touchBalanced 76 = .ok (.invokestatic 123, 3) := by decide +kernel
theorem dX1_touchBalanced_79 : decode cX1_touchBalanced 79 = .ok (.putfield 28, 3) := by decide +kernel
theorem dX1_touchBalanced_82 : decode cX1_touchBalanced 82 = .ok (.aload_n 0, 1) := by decide +kernel
theorem dX1_touchBalanced_83 : decode cX1_touchBalanced 83 = .ok (.iload_n 1, 1) := by decide +kernel
theorem dX1_touchBalanced_84 : decode cX1_touchBalanced 84 = .ok (.aload_n 0, 1) := by decide +kernel
theorem dX1_touchBalanced_85 : decode cX1_touchBalanced 85 = .ok (.getfield 13, 3) := by decide +kernel
theorem dX1_touchBalanced_88 : decode cX1_touchBalanced 88 = .ok (.iconst 2, 1) := by decide +kernel
theorem dX1_touchBalanced_89 : decode cX1_touchBalanced 89 = .ok (.aaload, 1) := by decide +kernel
theorem dX1_touchBalanced_90 : decode cX1_touchBalanced 90 = .ok (.iconst 0, 1) := by decide +kernel
theorem dX1_touchBalanced_91 : decode cX1_touchBalanced 91 = .ok (.invokevirtual 126, 3) := by decide +kernel
theorem dX1_touchBalanced_94 : decode cX1_touchBalanced 94 = .ok (.ireturn, 1) := by decide +kernel
theorem dX1_touchBalanced_95 : decode cX1_touchBalanced 95 = .ok (.aload_n 0, 1) := by decide +kernel
theorem dX1_touchBalanced_96 : decode cX1_touchBalanced 96 = .ok (.getfield 13, 3) := by decide +kernel
theorem dX1_touchBalanced_99 : decode cX1_touchBalanced 99 = .ok (.iconst 3, 1) := by decide +kernel
theorem dX1_touchBalanced_100 : decode cX1_touchBalanced 100 = .ok (.aaload, 1) := by decide +kernel
theorem dX1_touchBalanced_101 : decode cX1_touchBalanced 101 = .ok (.iload_n 1, 1) := by decide +kernel
theorem dX1_touchBalanced_102 : decode cX1_touchBalanced 102 = .ok (.invokevirtual 47, 3) := by decide +kernel
theorem dX1_touchBalanced_105 : decode cX1_touchBalanced 105 = .ok (.ifCond .eq 44, 3) := by decide +kernel
theorem dX1_touchBalanced_108 : decode cX1_touchBalanced 108 = .ok (.aload_n 0, 1) := by decide +kernel
theorem dX1_touchBalanced_109 : decode cX1_touchBalanced 109 = .ok (.iconst 0, 1) := by decide +kernel
theorem dX1_touchBalanced_110 : decode cX1_touchBalanced 110 = .ok (.aload_n 0, 1) := by decide +kernel
theorem dX1_touchBalanced_111 : decode cX1_touchBalanced 111 = .ok (.getfield 28, 3) := by decide +kernel
theorem dX1_touchBalanced_114 : decode cX1_touchBalanced 114 = .ok (.aload_n 0, 1) := by decide +kernel
theorem dX1_touchBalanced_115 : decode cX1_touchBalanced 115 = .ok (.getfield 13, 3) := by decide +kernel
theorem dX1_touchBalanced_118 : decode cX1_touchBalanced 118 = .ok (.iconst 2, 1) := by decide +kernel
theorem dX1_touchBalanced_119 : decode cX1_touchBalanced 119 = .ok (.aaload, 1) := by decide +kernel
theorem dX1_touchBalanced_120 : decode cX1_touchBalanced 120 = .ok (.aload_n 0, 1) := by decide +kernel
theorem dX1_touchBalanced_121 : decode cX1_touchBalanced 121 = .ok (.getfield 13, 3) := by decide +kernel
theorem dX1_touchBalanced_124 : decode cX1_touchBalanced 124 = .ok (.iconst 3, 1) := by decide +kernel
theorem dX1_touchBalanced_125 : decode cX1_touchBalanced 125 = .ok (.aaload, 1) := by decide +kernel
theorem dX1_touchBalanced_126 : decode cX1_touchBalanced 126 = .ok (.invokestatic 119, 3) := by decide +kernel
theorem dX1_touchBalanced_129 : decode cX1_touchBalanced 129 = .ok (.isub, 1) := by decide +kernel
theorem dX1_touchBalanced_130 : decode cX1_touchBalanced 130 = .ok (.invokestatic 113, 3) := by decide +kernel
theorem dX1_touchBalanced_133 : decode cX1_touchBalanced 133 = .ok (.putfield 28, 3) := by decide +kernel
theorem dX1_touchBalanced_136 : decode cX1_touchBalanced 136 = .ok (.aload_n 0, 1) := by decide +kernel
theorem dX1_touchBalanced_137 : decode cX1_touchBalanced 137 = .ok (.iload_n 1, 1) := by decide +kernel
theorem dX1_touchBalanced_138 : decode cX1_touchBalanced 138 = .ok (.aload_n 0, 1) := by decide +kernel
theorem dX1_touchBalanced_139 : decode cX1_touchBalanced 139 = .ok (.getfield 13, 3) := by decide +kernel
theorem dX1_touchBalanced_142 : decode cX1_touchBalanced 142 = .ok (.iconst 3, 1) := by decide +kernel
theorem dX1_touchBalanced_143 : decode cX1_touchBalanced 143 = .ok (.aaload, 1) := by decide +kernel
theorem dX1_touchBalanced_144 : decode cX1_touchBalanced 144 = .ok (.iconst 1, 1) := by decide +kernel
theorem dX1_touchBalanced_145 : decode cX1_touchBalanced 145 = .ok (.invokevirtual 126, 3) := by decide +kernel
theorem dX1_touchBalanced_148 : decode cX1_touchBalanced 148 = .ok (.ireturn, 1) := by decide +kernel
theorem dX1_touchBalanced_149 : decode cX1_touchBalanced 149 = .ok (.aload_n 0, 1) := by decide +kernel
theorem dX1_touchBalanced_150 : decode cX1_touchBalanced 150 = .ok (.invokevirtual 130, 3) := by decide +kernel
theorem dX1_touchBalanced_153 : decode cX1_touchBalanced 153 = .ok (.istore_n 2, 1) := by decide +kernel
theorem dX1_touchBalanced_154 : decode cX1_touchBalanced 154 = .ok (.aload_n 0, 1) := by decide +kernel
theorem dX1_touchBalanced_155 : decode cX1_touchBalanced 155 = .ok (.getfield 13, 3) := by decide +kernel
theorem dX1_touchBalanced_158 : decode cX1_touchBalanced 158 = .ok (.iconst 0, 1) := by decide +kernel
theorem dX1_touchBalanced_159 : decode cX1_touchBalanced 159 = .ok (.aaload, 1) := by decide +kernel
theorem dX1_touchBalanced_160 : decode cX1_touchBalanced 160 = .ok (.iload_n 1, 1) := by decide +kernel
theorem dX1_touchBalanced_161 : decode cX1_touchBalanced 161 = .ok (.invokevirtual 92, 3) := by decide +kernel
theorem dX1_touchBalanced_164 : decode cX1_touchBalanced 164 = .ok (.iload_n 2, 1) := by decide +kernel
theorem dX1_touchBalanced_165 : decode cX1_touchBalanced 165 = .ok (.ireturn, 1) := by decide +kernel
set_option maxRecDepth 20000 in
theorem ggX1_goalStep_X0_size : GoodIn wsX1_goalStep wsX0_size := goodIn_r _ [9, 10, 11, 12] (by decide +kernel) (by decide +kernel)
set_option maxRecDepth 20000 in
theorem gX1_goalStep_X0_size : GoodIn wsX1_goalStep (wsV RX1 85 RX0 yX0_size wsX0_size) := goodIn_app (goodIn_of _ (by decide +kernel)) ggX1_goalStep_X0_size
theorem dX1_goalStep_0 : decode cX1_goalStep 0 = .ok (.aload_n 1, 1) := by decide +kernel
theorem dX1_goalStep_1 : decode cX1_goalStep 1 = .ok (.invokevirtual 85, 3) := by decide +kernel
theorem dX1_goalStep_4 : decode cX1_goalStep 4 = .ok (.ifCond .ne 7, 3) := by decide +kernel
theorem dX1_goalStep_7 : decode cX1_goalStep 7 = .ok (.iconst 1, 1) := by decide +kernel
theorem dX1_goalStep_8 : decode cX1_goalStep 8 = .ok (.goto 16, 3) := by decide +kernel
theorem dX1_goalStep_11 : decode cX1_goalStep 11 = .ok (.iconst 1, 1) := by decide +kernel
theorem dX1_goalStep_12 : decode cX1_goalStep 12 = .ok (.aload_n 0, 1) := by decide +kernel
theorem dX1_goalStep_13 : decode cX1_goalStep 13 = .ok (.invokevirtual 85, 3) := by decide +kernel
theorem dX1_goalStep_16 : decode cX1_goalStep 16 = .ok (.aload_n 1, 1) := by decide +kernel
theorem dX1_goalStep_17 : decode cX1_goalStep 17 = .ok (.invokevirtual 85, 3) := by decide +kernel
theorem dX1_goalStep_20 : decode cX1_goalStep 20 = .ok (.idiv, 1) := by decide +kernel
theorem dX1_goalStep_21 : decode cX1_goalStep 21 = .ok (.invokestatic 113, 3) := by decide +kernel
theorem dX1_goalStep_24 : decode cX1_goalStep 24 = .ok (.ireturn, 1) := by decide +kernel
set_option maxRecDepth 20000 in
theorem ggX1_comeBack_X1_putOut : GoodIn wsX1_comeBack wsX1_putOut := goodIn_r _ [6, 1, 7, 8, 9, 10, 11, 12, 13, 14, 15, 16, 17, 18, 19, 20, 21, 22, 23, 24, 25, 26, 35, 36, 37, 38, 39, 40, 41, 42, 43, 44, 45] (by decide +kernel) (by decide +kernel)
set_option maxRecDepth 20000 in
theorem gX1_comeBack_X1_putOut : GoodIn wsX1_comeBack (wsV RX1 133 RX1 yX1_putOut wsX1_putOut) := goodIn_app (goodIn_of _ (by decide +kernel)) ggX1_comeBack_X1_putOut
set_option maxRecDepth 20000 in
theorem ggX1_comeBack_X0_remove : GoodIn wsX1_comeBack wsX0_remove := goodIn_r _ [30, 13, 18, 23, 24, 25, 26, 31, 32, 33, 11, 34, 44, 45] (by decide +kernel) (by decide +kernel)
set_option maxRecDepth 20000 in
theorem gX1_comeBack_X0_remove : GoodIn wsX1_comeBack (wsV RX1 82 RX0 yX0_remove wsX0_remove) := goodIn_app (goodIn_of _ (by decide +kernel)) ggX1_comeBack_X0_remove
set_option maxRecDepth 20000 in
theorem ggX1_comeBack_X0_addHead : GoodIn wsX1_comeBack wsX0_addHead := goodIn_r _ [22, 13, 18, 23, 24, 25, 26, 44, 45] (by decide +kernel) (by decide +kernel)
set_option maxRecDepth 20000 in
theorem gX1_comeBack_X0_addHead : GoodIn wsX1_comeBack (wsV RX1 92 RX0 yX0_addHead wsX0_addHead) := goodIn_app (goodIn_of _ (by decide +kernel)) ggX1_comeBack_X0_addHead
theorem dX1_comeBack_0 : decode cX1_comeBack 0 = .ok (.aload_n 0, 1) := by decide +kernel
theorem dX1_comeBack_1 : decode cX1_comeBack 1 = .ok (.iload_n 3, 1) := by decide +kernel
theorem dX1_comeBack_2 : decode cX1_comeBack 2 = .ok (.invokevirtual 133, 3) := by decide +kernel
theorem dX1_comeBack_5 : decode cX1_comeBack 5 = .ok (.istore 4, 2) := by decide +kernel
theorem dX1_comeBack_7 : decode cX1_comeBack 7 = .ok (.aload_n 2, 1) := by decide +kernel
theorem dX1_comeBack_8 : decode cX1_comeBack 8 = .ok (.iload_n 1, 1) := by decide +kernel
theorem dX1_comeBack_9 : decode cX1_comeBack 9 = .ok (.invokevirtual 82, 3) := by decide +kernel
theorem dX1_comeBack_12 : decode cX1_comeBack 12 = .ok (.pop, 1) := by decide +kernel
theorem dX1_comeBack_13 : decode cX1_comeBack 13 = .ok (.aload_n 0, 1) := by decide +kernel
theorem dX1_comeBack_14 : decode cX1_comeBack 14 = .ok (.getfield 13, 3) := by decide +kernel
theorem dX1_comeBack_17 : decode cX1_comeBack 17 = .ok (.iconst 1, 1) := by decide +kernel
theorem dX1_comeBack_18 : decode cX1_comeBack 18 = .ok (.aaload, 1) := by decide +kernel
theorem dX1_comeBack_19 : decode cX1_comeBack 19 = .ok (.iload_n 1, 1) := by decide +kernel
theorem dX1_comeBack_20 : decode cX1_comeBack 20 = .ok (.invokevirtual 92, 3) := by decide +kernel
theorem dX1_comeBack_23 : decode cX1_comeBack 23 = .ok (.iload 4, 2) := by decide +kernel
theorem dX1_comeBack_25 : decode cX1_comeBack 25 = .ok (.ireturn, 1) := by decide +kernel
set_option maxRecDepth 20000 in
theorem ggX1_makeRoomForNew_X0_size : GoodIn wsX1_makeRoomForNew wsX0_size := goodIn_r _ [7, 8, 37, 38] (by decide +kernel) (by decide +kernel)
set_option maxRecDepth 20000 in
theorem gX1_makeRoomForNew_X0_size : GoodIn wsX1_makeRoomForNew (wsV RX1 85 RX0 yX0_size wsX0_size) := goodIn_app (goodIn_of _ (by decide +kernel)) ggX1_makeRoomForNew_X0_size
set_option maxRecDepth 20000 in
theorem ggX1_makeRoomForNew_X0_takeTail : GoodIn wsX1_makeRoomForNew wsX0_takeTail := goodIn_r _ [12, 8, 13, 37, 38] (by decide +kernel) (by decide +kernel)
set_option maxRecDepth 20000 in
theorem gX1_makeRoomForNew_X0_takeTail : GoodIn wsX1_makeRoomForNew (wsV RX1 89 RX0 yX0_takeTail wsX0_takeTail) := goodIn_app (goodIn_of _ (by decide +kernel)) ggX1_makeRoomForNew_X0_takeTail
set_option maxRecDepth 20000 in
theorem ggX1_makeRoomForNew_X1_putOut : GoodIn wsX1_makeRoomForNew wsX1_putOut := goodIn_r _ [18, 1, 19, 3, 4, 5, 6, 7, 8, 9, 10, 11, 12, 13, 20, 21, 22, 23, 24, 25, 26, 27, 28, 29, 30, 31, 32, 33, 34, 35, 36, 37, 38] (by decide +kernel) (by decide +kernel)
set_option maxRecDepth 20000 in
theorem gX1_makeRoomForNew_X1_putOut : GoodIn wsX1_makeRoomForNew (wsV RX1 133 RX1 yX1_putOut wsX1_putOut) := goodIn_app (goodIn_of _ (by decide +kernel)) ggX1_makeRoomForNew_X1_putOut
theorem dX1_makeRoomForNew_0 : decode cX1_makeRoomForNew 0 = .ok (.aload_n 0, 1) := by decide +kernel
theorem dX1_makeRoomForNew_1 : decode cX1_makeRoomForNew 1 = .ok (.getfield 13, 3) := by decide +kernel
theorem dX1_makeRoomForNew_4 : decode cX1_makeRoomForNew 4 = .ok (.iconst 0, 1) := by decide +kernel
theorem dX1_makeRoomForNew_5 : decode cX1_makeRoomForNew 5 = .ok (.aaload, 1) := by decide +kernel
theorem dX1_makeRoomForNew_6 : decode cX1_makeRoomForNew 6 = .ok (.invokevirtual 85, 3) := by decide +kernel
theorem dX1_makeRoomForNew_9 : decode cX1_makeRoomForNew 9 = .ok (.aload_n 0, 1) := by decide +kernel
theorem dX1_makeRoomForNew_10 : decode cX1_makeRoomForNew 10 = .ok (.getfield 13, 3) := by decide +kernel
theorem dX1_makeRoomForNew_13 : decode cX1_makeRoomForNew 13 = .ok (.iconst 2, 1) := by decide +kernel
theorem dX1_makeRoomForNew_14 : decode cX1_makeRoomForNew 14 = .ok (.aaload, 1) := by decide +kernel
theorem dX1_makeRoomForNew_15 : decode cX1_makeRoomForNew 15 = .ok (.invokevirtual 85, 3) := by decide +kernel
theorem dX1_makeRoomForNew_18 : decode cX1_makeRoomForNew 18 = .ok (.iadd, 1) := by decide +kernel
theorem dX1_makeRoomForNew_19 : decode cX1_makeRoomForNew 19 = .ok (.istore_n 1, 1) := by decide +kernel
theorem dX1_makeRoomForNew_20 : decode cX1_makeRoomForNew 20 = .ok (.iload_n 1, 1) := by decide +kernel
theorem dX1_makeRoomForNew_21 : decode cX1_makeRoomForNew 21 = .ok (.aload_n 0, 1) := by decide +kernel
theorem dX1_makeRoomForNew_22 : decode cX1_makeRoomForNew 22 = .ok (.getfield 13, 3) := by decide +kernel
theorem dX1_makeRoomForNew_25 : decode cX1_makeRoomForNew 25 = .ok (.iconst 1, 1) := by decide +kernel
theorem dX1_makeRoomForNew_26 : decode cX1_makeRoomForNew 26 = .ok (.aaload, 1) := by decide +kernel
theorem dX1_makeRoomForNew_27 : decode cX1_makeRoomForNew 27 = .ok (.invokevirtual 85, 3) := by decide +kernel
theorem dX1_makeRoomForNew_30 : decode cX1_makeRoomForNew 30 = .ok (.iadd, 1) := by decide +kernel
theorem dX1_makeRoomForNew_31 : decode cX1_makeRoomForNew 31 = .ok (.aload_n 0, 1) := by decide +kernel
theorem dX1_makeRoomForNew_32 : decode cX1_makeRoomForNew 32 = .ok (.getfield 13, 3) := by decide +kernel
theorem dX1_makeRoomForNew_35 : decode cX1_makeRoomForNew 35 = .ok (.iconst 3, 1) := by decide +kernel
theorem dX1_makeRoomForNew_36 : decode cX1_makeRoomForNew 36 = .ok (.aaload, 1) := by decide +kernel
theorem dX1_makeRoomForNew_37 : decode cX1_makeRoomForNew 37 = .ok (.invokevirtual 85, 3) := by decide +kernel
theorem dX1_makeRoomForNew_40 : decode cX1_makeRoomForNew 40 = .ok (.iadd, 1) := by decide +kernel
theorem dX1_makeRoomForNew_41 : decode cX1_makeRoomForNew 41 = .ok (.istore_n 2, 1) := by decide +kernel
theorem dX1_makeRoomForNew_42 : decode cX1_makeRoomForNew 42 = .ok (.iload_n 1, 1) := by decide +kernel
theorem dX1_makeRoomForNew_43 : decode cX1_makeRoomForNew 43 = .ok (.aload_n 0, 1) := by decide +kernel
theorem dX1_makeRoomForNew_44 : decode cX1_makeRoomForNew 44 = .ok (.getfield 22, 3) := by decide +kernel
theorem dX1_makeRoomForNew_47 : decode cX1_makeRoomForNew 47 = .ok (.if_icmp .ne 45, 3) := by decide +kernel
theorem dX1_makeRoomForNew_50 : decode cX1_makeRoomForNew 50 = .ok (.aload_n 0, 1) := by decide +kernel
theorem dX1_makeRoomForNew_51 : decode cX1_makeRoomForNew 51 = .ok (.getfield 13, 3) := by decide +kernel
theorem dX1_makeRoomForNew_54 : decode cX1_makeRoomForNew 54 = .ok (.iconst 0, 1) := by decide +kernel
theorem dX1_makeRoomForNew_55 : decode cX1_makeRoomForNew 55 = .ok (.aaload, 1) := by decide +kernel
theorem dX1_makeRoomForNew_56 : decode cX1_makeRoomForNew 56 = .ok (.invokevirtual 85, 3) := by decide +kernel
theorem dX1_makeRoomForNew_59 : decode cX1_makeRoomForNew 59 = .ok (.aload_n 0, 1) := by decide +kernel
theorem dX1_makeRoomForNew_60 : decode cX1_makeRoomForNew 60 = .ok (.getfield 22, 3) := by decide +kernel
theorem dX1_makeRoomForNew_63 : decode cX1_makeRoomForNew 63 = .ok (.if_icmp .ne 13, 3) := by decide +kernel
theorem dX1_makeRoomForNew_66 : decode cX1_makeRoomForNew 66 = .ok (.aload_n 0, 1) := by decide +kernel
theorem dX1_makeRoomForNew_67 : decode cX1_makeRoomForNew 67 = .ok (.getfield 13, 3) := by decide +kernel
theorem dX1_makeRoomForNew_70 : decode cX1_makeRoomForNew 70 = .ok (.iconst 0, 1) := by decide +kernel
theorem dX1_makeRoomForNew_71 : decode cX1_makeRoomForNew 71 = .ok (.aaload, 1) := by decide +kernel
theorem dX1_makeRoomForNew_72 : decode cX1_makeRoomForNew 72 = .ok (.invokevirtual 89, 3) := by decide +kernel
theorem dX1_makeRoomForNew_75 : decode cX1_makeRoomForNew 75 = .ok (.ireturn, 1) := by decide +kernel
theorem dX1_makeRoomForNew_76 : decode cX1_makeRoomForNew 76 = .ok (.aload_n 0, 1) := by decide +kernel
theorem dX1_makeRoomForNew_77 : decode cX1_makeRoomForNew 77 = .ok (.getfield 13, 3) := by decide +kernel
theorem dX1_makeRoomForNew_80 : decode cX1_makeRoomForNew 80 = .ok (.iconst 2, 1) := by decide +kernel
theorem dX1_makeRoomForNew_81 : decode cX1_makeRoomForNew 81 = .ok (.aaload, 1) := by decide +kernel
theorem dX1_makeRoomForNew_82 : decode cX1_makeRoomForNew 82 = .ok (.invokevirtual 89, 3) := by decide +kernel
theorem dX1_makeRoomForNew_85 : decode cX1_makeRoomForNew 85 = .ok (.pop, 1) := by decide +kernel
theorem dX1_makeRoomForNew_86 : decode cX1_makeRoomForNew 86 = .ok (.aload_n 0, 1) := by decide +kernel
theorem dX1_makeRoomForNew_87 : decode cX1_makeRoomForNew 87 = .ok (.iconst 0, 1) := by decide +kernel
theorem dX1_makeRoomForNew_88 : decode cX1_makeRoomForNew 88 = .ok (.invokevirtual 133, 3) := by decide +kernel
theorem dX1_makeRoomForNew_91 : decode cX1_makeRoomForNew 91 = .ok (.ireturn, 1) := by decide +kernel
theorem dX1_makeRoomForNew_92 : decode cX1_makeRoomForNew 92 = .ok (.iload_n 2, 1) := by decide +kernel
theorem dX1_makeRoomForNew_93 : decode cX1_makeRoomForNew 93 = .ok (.aload_n 0, 1) := by decide +kernel
theorem dX1_makeRoomForNew_94 : decode cX1_makeRoomForNew 94 = .ok (.getfield 22, 3) := by decide +kernel
theorem dX1_makeRoomForNew_97 : decode cX1_makeRoomForNew 97 = .ok (.if_icmp .ge 5, 3) := by decide +kernel
theorem dX1_makeRoomForNew_100 : decode cX1_makeRoomForNew 100 = .ok (.iconst (-1), 1) := by decide +kernel
theorem dX1_makeRoomForNew_101 : decode cX1_makeRoomForNew 101 = .ok (.ireturn, 1) := by decide +kernel
theorem dX1_makeRoomForNew_102 : decode cX1_makeRoomForNew 102 = .ok (.iload_n 2, 1) := by decide +kernel
theorem dX1_makeRoomForNew_103 : decode cX1_makeRoomForNew 103 = .ok (.iconst 2, 1) := by decide +kernel
theorem dX1_makeRoomForNew_104 : decode cX1_makeRoomForNew 104 = .ok (.aload_n 0, 1) := by decide +kernel
theorem dX1_makeRoomForNew_105 : decode cX1_makeRoomForNew 105 = .ok (.getfield 22, 3) := by decide +kernel
theorem dX1_makeRoomForNew_108 : decode cX1_makeRoomForNew 108 = .ok (.imul, 1) := by decide +kernel
theorem dX1_makeRoomForNew_109 : decode cX1_makeRoomForNew 109 = .ok (.if_icmp .ne 13, 3) := by decide +kernel
theorem dX1_makeRoomForNew_112 : decode cX1_makeRoomForNew 112 = .ok (.aload_n 0, 1) := by decide +kernel
theorem dX1_makeRoomForNew_113 : decode cX1_makeRoomForNew 113 = .ok (.getfield 13, 3) := by decide +kernel
theorem dX1_makeRoomForNew_116 : decode cX1_makeRoomForNew 116 = .ok (.iconst 3, 1) := by decide +kernel
theorem dX1_makeRoomForNew_117 : decode cX1_makeRoomForNew 117 = .ok (.aaload, 1) := by decide +kernel
theorem dX1_makeRoomForNew_118 : decode cX1_makeRoomForNew 118 = .ok (.invokevirtual 89, 3) := by decide +kernel
theorem dX1_makeRoomForNew_121 : decode cX1_makeRoomForNew 121 = .ok (.pop, 1) := by decide +kernel
theorem dX1_makeRoomForNew_122 : decode cX1_makeRoomForNew 122 = .ok (.aload_n 0, 1) := by decide +kernel
theorem dX1_makeRoomForNew_123 : decode cX1_makeRoomForNew 123 = .ok (.iconst 0, 1) := by decide +kernel
theorem dX1_makeRoomForNew_124 : decode cX1_makeRoomForNew 124 = .ok (.invokevirtual 133, 3) := by decide +kernel
theorem dX1_makeRoomForNew_127 : decode cX1_makeRoomForNew 127 = .ok (.ireturn, 1) := by decide +kernel
set_option maxRecDepth 20000 in
theorem ggX1_putOut_X0_size : GoodIn wsX1_putOut wsX0_size := goodIn_r _ [7, 8, 31, 32] (by decide +kernel) (by decide +kernel)
set_option maxRecDepth 20000 in
theorem gX1_putOut_X0_size : GoodIn wsX1_putOut (wsV RX1 85 RX0 yX0_size wsX0_size) := goodIn_app (goodIn_of _ (by decide +kernel)) ggX1_putOut_X0_size
set_option maxRecDepth 20000 in
theorem ggX1_putOut_X0_takeTail : GoodIn wsX1_putOut wsX0_takeTail := goodIn_r _ [12, 8, 13, 31, 32] (by decide +kernel) (by decide +kernel)
set_option maxRecDepth 20000 in
theorem gX1_putOut_X0_takeTail : GoodIn wsX1_putOut (wsV RX1 89 RX0 yX0_takeTail wsX0_takeTail) := goodIn_app (goodIn_of _ (by decide +kernel)) ggX1_putOut_X0_takeTail
set_option maxRecDepth 20000 in
theorem ggX1_putOut_X0_addHead : GoodIn wsX1_putOut wsX0_addHead := goodIn_r _ [17, 8, 13, 18, 19, 20, 21, 31, 32] (by decide +kernel) (by decide +kernel)
set_option maxRecDepth 20000 in
theorem gX1_putOut_X0_addHead : GoodIn wsX1_putOut (wsV RX1 92 RX0 yX0_addHead wsX0_addHead) := goodIn_app (goodIn_of _ (by decide +kernel)) ggX1_putOut_X0_addHead
theorem dX1_putOut_0 : decode cX1_putOut 0 = .ok (.aload_n 0, 1) := by decide +kernel
theorem dX1_putOut_1 : decode cX1_putOut 1 = .ok (.getfield 13, 3) := by decide +kernel
theorem dX1_putOut_4 : decode cX1_putOut 4 = .ok (.iconst 0, 1) := by decide +kernel
theorem dX1_putOut_5 : decode cX1_putOut 5 = .ok (.aaload, 1) := by decide +kernel
theorem dX1_putOut_6 : decode cX1_putOut 6 = .ok (.invokevirtual 85, 3) := by decide +kernel
theorem dX1_putOut_9 : decode cX1_putOut 9 = .ok (.istore_n 2, 1) := by decide +kernel
theorem dX1_putOut_10 : decode cX1_putOut 10 = .ok (.iload_n 2, 1) := by decide +kernel
theorem dX1_putOut_11 : decode cX1_putOut 11 = .ok (.aload_n 0, 1) := by decide +kernel
theorem dX1_putOut_12 : decode cX1_putOut 12 = .ok (.getfield 28, 3) := by decide +kernel
theorem dX1_putOut_15 : decode cX1_putOut 15 = .ok (.if_icmp .gt 15, 3) := by decide +kernel
theorem dX1_putOut_18 : decode cX1_putOut 18 = .ok (.iload_n 2, 1) := by decide +kernel
theorem dX1_putOut_19 : decode cX1_putOut 19 = .ok (.aload_n 0, 1) := by decide +kernel
theorem dX1_putOut_20 : decode cX1_putOut 20 = .ok (.getfield 28, 3) := by decide +kernel
theorem dX1_putOut_23 : decode cX1_putOut 23 = .ok (.if_icmp .ne 11, 3) := by decide +kernel
theorem dX1_putOut_26 : decode cX1_putOut 26 = .ok (.iload_n 1, 1) := by decide +kernel
theorem dX1_putOut_27 : decode cX1_putOut 27 = .ok (.ifCond .eq 7, 3) := by decide +kernel
theorem dX1_putOut_30 : decode cX1_putOut 30 = .ok (.iconst 1, 1) := by decide +kernel
theorem dX1_putOut_31 : decode cX1_putOut 31 = .ok (.goto 4, 3) := by decide +kernel
theorem dX1_putOut_34 : decode cX1_putOut 34 = .ok (.iconst 0, 1) := by decide +kernel
theorem dX1_putOut_35 : decode cX1_putOut 35 = .ok (.istore_n 3, 1) := by decide +kernel
theorem dX1_putOut_36 : decode cX1_putOut 36 = .ok (.iload_n 2, 1) := by decide +kernel
theorem dX1_putOut_37 : decode cX1_putOut 37 = .ok (.ifCond .le 11, 3) := by decide +kernel
theorem dX1_putOut_40 : decode cX1_putOut 40 = .ok (.iload_n 3, 1) := by decide +kernel
theorem dX1_putOut_41 : decode cX1_putOut 41 = .ok (.ifCond .eq 7, 3) := by decide +kernel
theorem dX1_putOut_44 : decode cX1_putOut 44 = .ok (.iconst 1, 1) := by decide +kernel
theorem dX1_putOut_45 : decode cX1_putOut 45 = .ok (.goto 4, 3) := by decide +kernel
theorem dX1_putOut_48 : decode cX1_putOut 48 = .ok (.iconst 0, 1) := by decide +kernel
theorem dX1_putOut_49 : decode cX1_putOut 49 = .ok (.istore 4, 2) := by decide +kernel
theorem dX1_putOut_51 : decode cX1_putOut 51 = .ok (.aload_n 0, 1) := by decide +kernel
theorem dX1_putOut_52 : decode cX1_putOut 52 = .ok (.getfield 13, 3) := by decide +kernel
theorem dX1_putOut_55 : decode cX1_putOut 55 = .ok (.iload 4, 2) := by decide +kernel
theorem dX1_putOut_57 : decode cX1_putOut 57 = .ok (.ifCond .eq 7, 3) := by decide +kernel
theorem dX1_putOut_60 : decode cX1_putOut 60 = .ok (.iconst 0, 1) := by decide +kernel
theorem dX1_putOut_61 : decode cX1_putOut 61 = .ok (.goto 4, 3) := by decide +kernel
theorem dX1_putOut_64 : decode cX1_putOut 64 = .ok (.iconst 1, 1) := by decide +kernel
theorem dX1_putOut_65 : decode cX1_putOut 65 = .ok (.aaload, 1) := by decide +kernel
theorem dX1_putOut_66 : decode cX1_putOut 66 = .ok (.invokevirtual 89, 3) := by decide +kernel
theorem dX1_putOut_69 : decode cX1_putOut 69 = .ok (.istore 5, 2) := by decide +kernel
theorem dX1_putOut_71 : decode cX1_putOut 71 = .ok (.aload_n 0, 1) := by decide +kernel
theorem dX1_putOut_72 : decode cX1_putOut 72 = .ok (.getfield 13, 3) := by decide +kernel
theorem dX1_putOut_75 : decode cX1_putOut 75 = .ok (.iload 4, 2) := by decide +kernel
theorem dX1_putOut_77 : decode cX1_putOut 77 = .ok (.ifCond .eq 7, 3) := by decide +kernel
theorem dX1_putOut_80 : decode cX1_putOut 80 = .ok (.iconst 2, 1) := by decide +kernel
theorem dX1_putOut_81 : decode cX1_putOut 81 = .ok (.goto 4, 3) := by decide +kernel
theorem dX1_putOut_84 : decode cX1_putOut 84 = .ok (.iconst 3, 1) := by decide +kernel
theorem dX1_putOut_85 : decode cX1_putOut 85 = .ok (.aaload, 1) := by decide +kernel
theorem dX1_putOut_86 : decode cX1_putOut 86 = .ok (.iload 5, 2) := by decide +kernel
theorem dX1_putOut_88 : decode cX1_putOut 88 = .ok (.invokevirtual 92, 3) := by decide +kernel
theorem dX1_putOut_91 : decode cX1_putOut 91 = .ok (.iload 5, 2) := by decide +kernel
theorem dX1_putOut_93 : decode cX1_putOut 93 = .ok (.ireturn, 1) := by decide +kernel
theorem dX1_bit_0 : decode cX1_bit 0 = .ok (.lconst 1, 1) := by decide +kernel
theorem dX1_bit_1 : decode cX1_bit 1 = .ok (.iload_n 0, 1) := by decide +kernel
theorem dX1_bit_2 : decode cX1_bit 2 = .ok (.lshl, 1) := by decide +kernel
theorem dX1_bit_3 : decode cX1_bit 3 = .ok (.lreturn, 1) := by decide +kernel
set_option maxRecDepth 20000 in
theorem ggX2_init_X1_init : GoodIn wsX2_init wsX1_init := goodIn_r _ [11, 12, 2, 3, 13, 14, 15, 16, 17, 18, 19, 20, 21, 22, 23, 24, 25, 26, 27, 28, 29, 30, 31, 32, 37, 38] (by decide +kernel) (by decide +kernel)
set_option maxRecDepth 20000 in
theorem gX2_init_X1_init : GoodIn wsX2_init (wsX1_init) := ggX2_init_X1_init
theorem dX2_init_0 : decode cX2_init 0 = .ok (.aload_n 0, 1) := by decide +kernel
theorem dX2_init_1 : decode cX2_init 1 = .ok (.invokespecial 1, 3) := by decide +kernel
theorem dX2_init_4 : decode cX2_init 4 = .ok (.aload_n 0, 1) := by decide +kernel
theorem dX2_init_5 : decode cX2_init 5 = .ok (.new 7, 3) := by decide +kernel
theorem dX2_init_8 : decode cX2_init 8 = .ok (.dup, 1) := by decide +kernel
theorem dX2_init_9 : decode cX2_init 9 = .ok (.iconst 0, 1) := by decide +kernel
theorem dX2_init_10 : decode cX2_init 10 = .ok (.iconst 4, 1) := by decide +kernel
theorem dX2_init_11 : decode cX2_init 11 = .ok (.invokespecial 11, 3) := by decide +kernel
theorem dX2_init_14 : decode cX2_init 14 = .ok (.putfield 14, 3) := by decide +kernel
theorem dX2_init_17 : decode cX2_init 17 = .ok (.aload_n 0, 1) := by decide +kernel
theorem dX2_init_18 : decode cX2_init 18 = .ok (.new 7, 3) := by decide +kernel
theorem dX2_init_21 : decode cX2_init 21 = .ok (.dup, 1) := by decide +kernel
theorem dX2_init_22 : decode cX2_init 22 = .ok (.iconst 0, 1) := by decide +kernel
theorem dX2_init_23 : decode cX2_init 23 = .ok (.bipush 8, 2) := by decide +kernel
theorem dX2_init_25 : decode cX2_init 25 = .ok (.invokespecial 11, 3) := by decide +kernel
theorem dX2_init_28 : decode cX2_init 28 = .ok (.putfield 18, 3) := by decide +kernel
theorem dX2_init_31 : decode cX2_init 31 = .ok (.return_, 1) := by decide +kernel
set_option maxRecDepth 20000 in
theorem ggX2_begin_X2_isPolicy : GoodIn wsX2_begin wsX2_isPolicy := goodIn_r _ [8] (by decide +kernel) (by decide +kernel)
set_option maxRecDepth 20000 in
theorem gX2_begin_X2_isPolicy : GoodIn wsX2_begin (va_wsS RX2 21 yX2_isPolicy wsX2_isPolicy) := goodIn_app (goodIn_of _ (by decide +kernel)) ggX2_begin_X2_isPolicy
set_option maxRecDepth 20000 in
theorem ggX2_begin_X2_isCapacity : GoodIn wsX2_begin wsX2_isCapacity := goodIn_r _ [11] (by decide +kernel) (by decide +kernel)
set_option maxRecDepth 20000 in
theorem gX2_begin_X2_isCapacity : GoodIn wsX2_begin (va_wsS RX2 25 yX2_isCapacity wsX2_isCapacity) := goodIn_app (goodIn_of _ (by decide +kernel)) ggX2_begin_X2_isCapacity
set_option maxRecDepth 20000 in
theorem ggX2_begin_X1_restart : GoodIn wsX2_begin wsX1_restart := goodIn_r _ [16, 17, 18, 19, 20, 21, 22, 23, 24, 25, 26, 27, 28, 29, 30, 31, 36, 37, 38, 39, 40, 41, 42, 43, 44, 45, 46] (by decide +kernel) (by decide +kernel)
set_option maxRecDepth 20000 in
theorem gX2_begin_X1_restart : GoodIn wsX2_begin (wsV RX2 28 RX1 yX1_restart wsX1_restart) := goodIn_app (goodIn_of _ (by decide +kernel)) ggX2_begin_X1_restart
theorem dX2_begin_0 : decode cX2_begin 0 = .ok (.iload_n 1, 1) := by decide +kernel
theorem dX2_begin_1 : decode cX2_begin 1 = .ok (.invokestatic 21, 3) := by decide +kernel
theorem dX2_begin_4 : decode cX2_begin 4 = .ok (.ifCond .eq 10, 3) := by decide +kernel
theorem dX2_begin_7 : decode cX2_begin 7 = .ok (.iload_n 2, 1) := by decide +kernel
theorem dX2_begin_8 : decode cX2_begin 8 = .ok (.invokestatic 25, 3) := by decide +kernel
theorem dX2_begin_11 : decode cX2_begin 11 = .ok (.ifCond .ne 5, 3) := by decide +kernel
theorem dX2_begin_14 : decode cX2_begin 14 = .ok (.iconst 0, 1) := by decide +kernel
theorem dX2_begin_15 : decode cX2_begin 15 = .ok (.ireturn, 1) := by decide +kernel
theorem dX2_begin_16 : decode cX2_begin 16 = .ok (.iload_n 3, 1) := by decide +kernel
theorem dX2_begin_17 : decode cX2_begin 17 = .ok (.invokestatic 21, 3) := by decide +kernel
theorem dX2_begin_20 : decode cX2_begin 20 = .ok (.ifCond .eq 11, 3) := by decide +kernel
theorem dX2_begin_23 : decode cX2_begin 23 = .ok (.iload 4, 2) := by decide +kernel
theorem dX2_begin_25 : decode cX2_begin 25 = .ok (.invokestatic 25, 3) := by decide +kernel
theorem dX2_begin_28 : decode cX2_begin 28 = .ok (.ifCond .ne 5, 3) := by decide +kernel
theorem dX2_begin_31 : decode cX2_begin 31 = .ok (.iconst 0, 1) := by decide +kernel
theorem dX2_begin_32 : decode cX2_begin 32 = .ok (.ireturn, 1) := by decide +kernel
theorem dX2_begin_33 : decode cX2_begin 33 = .ok (.aload_n 0, 1) := by decide +kernel
theorem dX2_begin_34 : decode cX2_begin 34 = .ok (.getfield 14, 3) := by decide +kernel
theorem dX2_begin_37 : decode cX2_begin 37 = .ok (.iload_n 1, 1) := by decide +kernel
theorem dX2_begin_38 : decode cX2_begin 38 = .ok (.iload_n 2, 1) := by decide +kernel
theorem dX2_begin_39 : decode cX2_begin 39 = .ok (.invokevirtual 28, 3) := by decide +kernel
theorem dX2_begin_42 : decode cX2_begin 42 = .ok (.aload_n 0, 1) := by decide +kernel
theorem dX2_begin_43 : decode cX2_begin 43 = .ok (.getfield 18, 3) := by decide +kernel
theorem dX2_begin_46 : decode cX2_begin 46 = .ok (.iload_n 3, 1) := by decide +kernel
theorem dX2_begin_47 : decode cX2_begin 47 = .ok (.iload 4, 2) := by decide +kernel
theorem dX2_begin_49 : decode cX2_begin 49 = .ok (.invokevirtual 28, 3) := by decide +kernel
theorem dX2_begin_52 : decode cX2_begin 52 = .ok (.aload_n 0, 1) := by decide +kernel
theorem dX2_begin_53 : decode cX2_begin 53 = .ok (.iconst 0, 1) := by decide +kernel
theorem dX2_begin_54 : decode cX2_begin 54 = .ok (.putfield 31, 3) := by decide +kernel
theorem dX2_begin_57 : decode cX2_begin 57 = .ok (.aload_n 0, 1) := by decide +kernel
theorem dX2_begin_58 : decode cX2_begin 58 = .ok (.iconst 0, 1) := by decide +kernel
theorem dX2_begin_59 : decode cX2_begin 59 = .ok (.putfield 35, 3) := by decide +kernel
theorem dX2_begin_62 : decode cX2_begin 62 = .ok (.iconst 1, 1) := by decide +kernel
theorem dX2_begin_63 : decode cX2_begin 63 = .ok (.ireturn, 1) := by decide +kernel
set_option maxRecDepth 20000 in
theorem ggX2_access_X2_isPage : GoodIn wsX2_access wsX2_isPage := goodIn_r _ [5] (by decide +kernel) (by decide +kernel)
set_option maxRecDepth 20000 in
theorem gX2_access_X2_isPage : GoodIn wsX2_access (va_wsS RX2 38 yX2_isPage wsX2_isPage) := goodIn_app (goodIn_of _ (by decide +kernel)) ggX2_access_X2_isPage
set_option maxRecDepth 20000 in
theorem ggX2_access_X1_holds : GoodIn wsX2_access wsX1_holds := goodIn_r _ [10, 11, 12, 13, 14, 15, 16, 17, 18, 19, 20, 21, 22, 23, 151, 152, 153, 154, 155, 156, 157, 158, 159, 160, 161] (by decide +kernel) (by decide +kernel)
set_option maxRecDepth 20000 in
theorem gX2_access_X1_holds : GoodIn wsX2_access (wsV RX2 41 RX1 yX1_holds wsX1_holds) := goodIn_app (goodIn_of _ (by decide +kernel)) ggX2_access_X1_holds
set_option maxRecDepth 20000 in
theorem ggX2_access_X1_touch : GoodIn wsX2_access wsX1_touch := goodIn_r _ [27, 28, 29, 11, 30, 7, 8, 9, 10, 12, 13, 14, 15, 16, 17, 18, 19, 20, 21, 22, 23, 31, 32, 33, 34, 35, 36, 37, 38, 39, 40, 41, 42, 43, 44, 45, 46, 47, 48, 49, 50, 51, 52, 53, 54, 55, 56, 57, 58, 59, 60, 61, 62, 63, 64, 65, 66, 67, 68, 69, 70, 71, 72, 73, 74, 75, 76, 77, 78, 79, 80, 81, 82, 83, 84, 85, 86, 87, 88, 89, 90, 91, 92, 93, 94, 95, 96, 97, 98, 99, 100, 101, 102, 103, 104, 105, 106, 107, 108, 109, 110, 111, 112, 113, 114, 115, 116, 117, 118, 119, 120, 121, 151, 152, 153, 154, 155, 156, 157, 158, 159, 160, 161] (by decide +kernel) (by decide +kernel)
set_option maxRecDepth 20000 in
theorem gX2_access_X1_touch : GoodIn wsX2_access (wsV RX2 44 RX1 yX1_touch wsX1_touch) := goodIn_app (goodIn_of _ (by decide +kernel)) ggX2_access_X1_touch
set_option maxRecDepth 20000 in
theorem ggX2_access_X2_askLower : GoodIn wsX2_access wsX2_askLower := goodIn_r _ [125, 126, 127, 128, 6, 7, 8, 9, 10, 11, 12, 13, 14, 15, 16, 17, 18, 19, 20, 21, 22, 23, 24, 25, 26, 27, 28, 29, 30, 31, 32, 33, 34, 35, 36, 37, 38, 39, 40, 41, 42, 43, 44, 45, 46, 47, 48, 49, 50, 51, 52, 53, 54, 55, 56, 57, 58, 59, 60, 61, 62, 63, 64, 65, 66, 67, 68, 69, 70, 71, 72, 73, 74, 75, 76, 77, 78, 79, 80, 81, 82, 83, 84, 85, 86, 87, 88, 89, 90, 91, 92, 93, 94, 95, 96, 97, 98, 99, 100, 101, 102, 103, 104, 105, 106, 107, 108, 109, 110, 111, 112, 113, 114, 115, 116, 117, 118, 119, 120, 121, 129, 130, 131, 132, 133, 134, 135, 136, 137, 138, 139, 140, 141, 142, 143, 144, 145, 146, 147, 148, 149, 150, 151, 152, 153, 154, 155, 156, 157, 158, 159, 160, 161] (by decide +kernel) (by decide +kernel)
set_option maxRecDepth 20000 in
theorem gX2_access_X2_askLower : GoodIn wsX2_access (wsV RX2 48 RX2 yX2_askLower wsX2_askLower) := goodIn_app (goodIn_of _ (by decide +kernel)) ggX2_access_X2_askLower
set_option maxRecDepth 20000 in
theorem ggX2_access_X1_cleanVictim : GoodIn wsX2_access wsX1_cleanVictim := goodIn_r _ [132, 133, 134, 135, 136, 9, 137, 138, 68, 139, 140, 141, 142, 61, 62, 63, 151, 152, 153, 154, 155, 156, 157, 158, 159] (by decide +kernel) (by decide +kernel)
set_option maxRecDepth 20000 in
theorem gX2_access_X1_cleanVictim : GoodIn wsX2_access (wsV RX2 52 RX1 yX1_cleanVictim wsX1_cleanVictim) := goodIn_app (goodIn_of _ (by decide +kernel)) ggX2_access_X1_cleanVictim
set_option maxRecDepth 20000 in
theorem ggX2_access_X1_soil : GoodIn wsX2_access wsX1_soil := goodIn_r _ [146, 138, 61, 62, 9, 63, 151, 152, 153, 154, 155, 156, 157, 158, 159] (by decide +kernel) (by decide +kernel)
set_option maxRecDepth 20000 in
theorem gX2_access_X1_soil : GoodIn wsX2_access (wsV RX2 55 RX1 yX1_soil wsX1_soil) := goodIn_app (goodIn_of _ (by decide +kernel)) ggX2_access_X1_soil
theorem dX2_access_0 : decode cX2_access 0 = .ok (.iload_n 1, 1) := by decide +kernel
theorem dX2_access_1 : decode cX2_access 1 = .ok (.invokestatic 38, 3) := by decide +kernel
theorem dX2_access_4 : decode cX2_access 4 = .ok (.ifCond .ne 5, 3) := by decide +kernel
theorem dX2_access_7 : decode cX2_access 7 = .ok (.iconst (-1), 1) := by decide +kernel
theorem dX2_access_8 : decode cX2_access 8 = .ok (.ireturn, 1) := by decide +kernel
theorem dX2_access_9 : decode cX2_access 9 = .ok (.aload_n 0, 1) := by decide +kernel
theorem dX2_access_10 : decode cX2_access 10 = .ok (.getfield 14, 3) := by decide +kernel
theorem dX2_access_13 : decode cX2_access 13 = .ok (.iload_n 1, 1) := by decide +kernel
theorem dX2_access_14 : decode cX2_access 14 = .ok (.invokevirtual 41, 3) := by decide +kernel
theorem dX2_access_17 : decode cX2_access 17 = .ok (.istore_n 3, 1) := by decide +kernel
theorem dX2_access_18 : decode cX2_access 18 = .ok (.aload_n 0, 1) := by decide +kernel
theorem dX2_access_19 : decode cX2_access 19 = .ok (.getfield 14, 3) := by decide +kernel
theorem dX2_access_22 : decode cX2_access 22 = .ok (.iload_n 1, 1) := by decide +kernel
theorem dX2_access_23 : decode cX2_access 23 = .ok (.invokevirtual 44, 3) := by decide +kernel
theorem dX2_access_26 : decode cX2_access 26 = .ok (.istore 4, 2) := by decide +kernel
theorem dX2_access_28 : decode cX2_access 28 = .ok (.iconst 0, 1) := by decide +kernel
theorem dX2_access_29 : decode cX2_access 29 = .ok (.istore 5, 2) := by decide +kernel
theorem dX2_access_31 : decode cX2_access 31 = .ok (.iload_n 3, 1) := by decide +kernel
theorem dX2_access_32 : decode cX2_access 32 = .ok (.ifCond .ne 19, 3) := by decide +kernel
theorem dX2_access_35 : decode cX2_access 35 = .ok (.aload_n 0, 1) := by decide +kernel
theorem dX2_access_36 : decode cX2_access 36 = .ok (.iload_n 1, 1) := by decide +kernel
theorem dX2_access_37 : decode cX2_access 37 = .ok (.iconst 0, 1) := by decide +kernel
theorem dX2_access_38 : decode cX2_access 38 = .ok (.invokevirtual 48, 3) := by decide +kernel
theorem dX2_access_41 : decode cX2_access 41 = .ok (.ifCond .eq 7, 3) := by decide +kernel
theorem dX2_access_44 : decode cX2_access 44 = .ok (.iconst 1, 1) := by decide +kernel
theorem dX2_access_45 : decode cX2_access 45 = .ok (.goto 4, 3) := by decide +kernel
theorem dX2_access_48 : decode cX2_access 48 = .ok (.iconst 2, 1) := by decide +kernel
theorem dX2_access_49 : decode cX2_access 49 = .ok (.istore 5, 2) := by decide +kernel
theorem dX2_access_51 : decode cX2_access 51 = .ok (.aload_n 0, 1) := by decide +kernel
theorem dX2_access_52 : decode cX2_access 52 = .ok (.getfield 14, 3) := by decide +kernel
theorem dX2_access_55 : decode cX2_access 55 = .ok (.iload 4, 2) := by decide +kernel
theorem dX2_access_57 : decode cX2_access 57 = .ok (.invokevirtual 52, 3) := by decide +kernel
theorem dX2_access_60 : decode cX2_access 60 = .ok (.ifCond .eq 11, 3) := by decide +kernel
theorem dX2_access_63 : decode cX2_access 63 = .ok (.aload_n 0, 1) := by decide +kernel
theorem dX2_access_64 : decode cX2_access 64 = .ok (.iload 4, 2) := by decide +kernel
theorem dX2_access_66 : decode cX2_access 66 = .ok (.iconst 1, 1) := by decide +kernel
theorem dX2_access_67 : decode cX2_access 67 = .ok (.invokevirtual 48, 3) := by decide +kernel
theorem dX2_access_70 : decode cX2_access 70 = .ok (.pop, 1) := by decide +kernel
theorem dX2_access_71 : decode cX2_access 71 = .ok (.iload_n 2, 1) := by decide +kernel
theorem dX2_access_72 : decode cX2_access 72 = .ok (.ifCond .eq 11, 3) := by decide +kernel
theorem dX2_access_75 : decode cX2_access 75 = .ok (.aload_n 0, 1) := by decide +kernel
theorem dX2_access_76 : decode cX2_access 76 = .ok (.getfield 14, 3) := by decide +kernel
theorem dX2_access_79 : decode cX2_access 79 = .ok (.iload_n 1, 1) := by decide +kernel
theorem dX2_access_80 : decode cX2_access 80 = .ok (.invokevirtual 55, 3) := by decide +kernel
theorem dX2_access_83 : decode cX2_access 83 = .ok (.iload 5, 2) := by decide +kernel
theorem dX2_access_85 : decode cX2_access 85 = .ok (.ireturn, 1) := by decide +kernel
set_option maxRecDepth 20000 in
theorem ggX2_flush_X1_clean : GoodIn wsX2_flush wsX1_clean := goodIn_r _ [8, 9, 10, 11, 12, 13, 7, 14, 15, 16, 17, 149, 150, 151, 152, 153, 154, 155, 156, 157] (by decide +kernel) (by decide +kernel)
set_option maxRecDepth 20000 in
theorem gX2_flush_X1_clean : GoodIn wsX2_flush (wsV RX2 59 RX1 yX1_clean wsX1_clean) := goodIn_app (goodIn_of _ (by decide +kernel)) ggX2_flush_X1_clean
set_option maxRecDepth 20000 in
theorem ggX2_flush_X2_askLower : GoodIn wsX2_flush wsX2_askLower := goodIn_r _ [22, 3, 23, 1, 24, 25, 26, 7, 27, 28, 29, 30, 31, 32, 33, 34, 35, 36, 37, 38, 39, 40, 41, 42, 43, 44, 45, 46, 47, 48, 49, 50, 51, 52, 53, 54, 55, 56, 57, 58, 59, 60, 61, 62, 63, 64, 65, 66, 67, 68, 69, 70, 71, 72, 73, 74, 75, 76, 77, 15, 16, 17, 78, 79, 80, 81, 10, 82, 83, 84, 85, 86, 87, 88, 89, 90, 91, 92, 93, 94, 95, 96, 97, 98, 99, 100, 101, 102, 103, 104, 105, 106, 107, 108, 109, 110, 111, 112, 113, 114, 115, 116, 117, 118, 119, 120, 121, 122, 123, 124, 125, 126, 127, 128, 129, 130, 131, 132, 133, 134, 135, 136, 137, 138, 139, 140, 5, 6, 8, 9, 11, 12, 13, 14, 141, 142, 143, 144, 145, 146, 147, 148, 149, 150, 151, 152, 153, 154, 155, 156, 157, 158, 159] (by decide +kernel) (by decide +kernel)
set_option maxRecDepth 20000 in
theorem gX2_flush_X2_askLower : GoodIn wsX2_flush (wsV RX2 48 RX2 yX2_askLower wsX2_askLower) := goodIn_app (goodIn_of _ (by decide +kernel)) ggX2_flush_X2_askLower
theorem dX2_flush_0 : decode cX2_flush 0 = .ok (.aload_n 0, 1) := by decide +kernel
theorem dX2_flush_1 : decode cX2_flush 1 = .ok (.getfield 35, 3) := by decide +kernel
theorem dX2_flush_4 : decode cX2_flush 4 = .ok (.istore_n 1, 1) := by decide +kernel
theorem dX2_flush_5 : decode cX2_flush 5 = .ok (.iconst 0, 1) := by decide +kernel
theorem dX2_flush_6 : decode cX2_flush 6 = .ok (.istore_n 2, 1) := by decide +kernel
theorem dX2_flush_7 : decode cX2_flush 7 = .ok (.iload_n 2, 1) := by decide +kernel
theorem dX2_flush_8 : decode cX2_flush 8 = .ok (.bipush 64, 2) := by decide +kernel
theorem dX2_flush_10 : decode cX2_flush 10 = .ok (.if_icmp .ge 27, 3) := by decide +kernel
theorem dX2_flush_13 : decode cX2_flush 13 = .ok (.aload_n 0, 1) := by decide +kernel
theorem dX2_flush_14 : decode cX2_flush 14 = .ok (.getfield 14, 3) := by decide +kernel
theorem dX2_flush_17 : decode cX2_flush 17 = .ok (.iload_n 2, 1) := by decide +kernel
theorem dX2_flush_18 : decode cX2_flush 18 = .ok (.invokevirtual 59, 3) := by decide +kernel
theorem dX2_flush_21 : decode cX2_flush 21 = .ok (.ifCond .eq 10, 3) := by decide +kernel
theorem dX2_flush_24 : decode cX2_flush 24 = .ok (.aload_n 0, 1) := by decide +kernel
theorem dX2_flush_25 : decode cX2_flush 25 = .ok (.iload_n 2, 1) := by decide +kernel
theorem dX2_flush_26 : decode cX2_flush 26 = .ok (.iconst 1, 1) := by decide +kernel
theorem dX2_flush_27 : decode cX2_flush 27 = .ok (.invokevirtual 48, 3) := by decide +kernel
theorem dX2_flush_30 : decode cX2_flush 30 = .ok (.pop, 1) := by decide +kernel
theorem dX2_flush_31 : decode cX2_flush 31 = .ok (.iinc 2 1, 3) := by decide +kernel
theorem dX2_flush_34 : decode cX2_flush 34 = .ok (.goto (-27), 3) := by decide +kernel
theorem dX2_flush_37 : decode cX2_flush 37 = .ok (.iconst 0, 1) := by decide +kernel
theorem dX2_flush_38 : decode cX2_flush 38 = .ok (.istore_n 2, 1) := by decide +kernel
theorem dX2_flush_39 : decode cX2_flush 39 = .ok (.iload_n 2, 1) := by decide +kernel
theorem dX2_flush_40 : decode cX2_flush 40 = .ok (.bipush 64, 2) := by decide +kernel
theorem dX2_flush_42 : decode cX2_flush 42 = .ok (.if_icmp .ge 30, 3) := by decide +kernel
theorem dX2_flush_45 : decode cX2_flush 45 = .ok (.aload_n 0, 1) := by decide +kernel
theorem dX2_flush_46 : decode cX2_flush 46 = .ok (.getfield 18, 3) := by decide +kernel
theorem dX2_flush_49 : decode cX2_flush 49 = .ok (.iload_n 2, 1) := by decide +kernel
theorem dX2_flush_50 : decode cX2_flush 50 = .ok (.invokevirtual 59, 3) := by decide +kernel
theorem dX2_flush_53 : decode cX2_flush 53 = .ok (.ifCond .eq 13, 3) := by decide +kernel
theorem dX2_flush_56 : decode cX2_flush 56 = .ok (.aload_n 0, 1) := by decide +kernel
theorem dX2_flush_57 : decode cX2_flush 57 = .ok (.dup, 1) := by decide +kernel
theorem dX2_flush_58 : decode cX2_flush 58 = .ok (.getfield 35, 3) := by decide +kernel
theorem dX2_flush_61 : decode cX2_flush 61 = .ok (.iconst 1, 1) := by decide +kernel
theorem dX2_flush_62 : decode cX2_flush 62 = .ok (.iadd, 1) := by decide +kernel
theorem dX2_flush_63 : decode cX2_flush 63 = .ok (.putfield 35, 3) := by decide +kernel
theorem dX2_flush_66 : decode cX2_flush 66 = .ok (.iinc 2 1, 3) := by decide +kernel
theorem dX2_flush_69 : decode cX2_flush 69 = .ok (.goto (-30), 3) := by decide +kernel
theorem dX2_flush_72 : decode cX2_flush 72 = .ok (.aload_n 0, 1) := by decide +kernel
theorem dX2_flush_73 : decode cX2_flush 73 = .ok (.getfield 35, 3) := by decide +kernel
theorem dX2_flush_76 : decode cX2_flush 76 = .ok (.iload_n 1, 1) := by decide +kernel
theorem dX2_flush_77 : decode cX2_flush 77 = .ok (.isub, 1) := by decide +kernel
theorem dX2_flush_78 : decode cX2_flush 78 = .ok (.ireturn, 1) := by decide +kernel
set_option maxRecDepth 20000 in
theorem ggX2_resident_X2_tierAt : GoodIn wsX2_resident wsX2_tierAt := goodIn_r _ [5, 6, 7, 29, 30, 31, 32] (by decide +kernel) (by decide +kernel)
set_option maxRecDepth 20000 in
theorem gX2_resident_X2_tierAt : GoodIn wsX2_resident (wsV RX2 62 RX2 yX2_tierAt wsX2_tierAt) := goodIn_app (goodIn_of _ (by decide +kernel)) ggX2_resident_X2_tierAt
set_option maxRecDepth 20000 in
theorem ggX2_resident_X2_isPage : GoodIn wsX2_resident wsX2_isPage := goodIn_r _ [10] (by decide +kernel) (by decide +kernel)
set_option maxRecDepth 20000 in
theorem gX2_resident_X2_isPage : GoodIn wsX2_resident (va_wsS RX2 38 yX2_isPage wsX2_isPage) := goodIn_app (goodIn_of _ (by decide +kernel)) ggX2_resident_X2_isPage
set_option maxRecDepth 20000 in
theorem ggX2_resident_X1_holds : GoodIn wsX2_resident wsX1_holds := goodIn_r _ [15, 16, 17, 18, 19, 20, 21, 22, 23, 24, 25, 26, 27, 28, 33, 34, 35, 36, 37, 38, 39, 40, 41, 42, 43] (by decide +kernel) (by decide +kernel)
set_option maxRecDepth 20000 in
theorem gX2_resident_X1_holds : GoodIn wsX2_resident (wsV RX2 41 RX1 yX1_holds wsX1_holds) := goodIn_app (goodIn_of _ (by decide +kernel)) ggX2_resident_X1_holds
theorem dX2_resident_0 : decode cX2_resident 0 = .ok (.aload_n 0, 1) := by decide +kernel
theorem dX2_resident_1 : decode cX2_resident 1 = .ok (.iload_n 1, 1) := by decide +kernel
theorem dX2_resident_2 : decode cX2_resident 2 = .ok (.invokevirtual 62, 3) := by decide +kernel
theorem dX2_resident_5 : decode cX2_resident 5 = .ok (.astore_n 3, 1) := by decide +kernel
theorem dX2_resident_6 : decode cX2_resident 6 = .ok (.aload_n 3, 1) := by decide +kernel
theorem dX2_resident_7 : decode cX2_resident 7 = .ok (.ifnull 22, 3) := by decide +kernel
theorem dX2_resident_10 : decode cX2_resident 10 = .ok (.iload_n 2, 1) := by decide +kernel
theorem dX2_resident_11 : decode cX2_resident 11 = .ok (.invokestatic 38, 3) := by decide +kernel
theorem dX2_resident_14 : decode cX2_resident 14 = .ok (.ifCond .eq 15, 3) := by decide +kernel
theorem dX2_resident_17 : decode cX2_resident 17 = .ok (.aload_n 3, 1) := by decide +kernel
theorem dX2_resident_18 : decode cX2_resident 18 = .ok (.iload_n 2, 1) := by decide +kernel
theorem dX2_resident_19 : decode cX2_resident 19 = .ok (.invokevirtual 41, 3) := by decide +kernel
theorem dX2_resident_22 : decode cX2_resident 22 = .ok (.ifCond .eq 7, 3) := by decide +kernel
theorem dX2_resident_25 : decode cX2_resident 25 = .ok (.iconst 1, 1) := by decide +kernel
theorem dX2_resident_26 : decode cX2_resident 26 = .ok (.goto 4, 3) := by decide +kernel
theorem dX2_resident_29 : decode cX2_resident 29 = .ok (.iconst 0, 1) := by decide +kernel
theorem dX2_resident_30 : decode cX2_resident 30 = .ok (.ireturn, 1) := by decide +kernel
set_option maxRecDepth 20000 in
theorem ggX2_dirty_X2_tierAt : GoodIn wsX2_dirty wsX2_tierAt := goodIn_r _ [5, 6, 7, 20, 21, 22, 23] (by decide +kernel) (by decide +kernel)
set_option maxRecDepth 20000 in
theorem gX2_dirty_X2_tierAt : GoodIn wsX2_dirty (wsV RX2 62 RX2 yX2_tierAt wsX2_tierAt) := goodIn_app (goodIn_of _ (by decide +kernel)) ggX2_dirty_X2_tierAt
set_option maxRecDepth 20000 in
theorem ggX2_dirty_X2_isPage : GoodIn wsX2_dirty wsX2_isPage := goodIn_r _ [10] (by decide +kernel) (by decide +kernel)
set_option maxRecDepth 20000 in
theorem gX2_dirty_X2_isPage : GoodIn wsX2_dirty (va_wsS RX2 38 yX2_isPage wsX2_isPage) := goodIn_app (goodIn_of _ (by decide +kernel)) ggX2_dirty_X2_isPage
set_option maxRecDepth 20000 in
theorem ggX2_dirty_X1_isDirty : GoodIn wsX2_dirty wsX1_isDirty := goodIn_r _ [15, 16, 17, 18, 14, 19, 24, 25, 26, 27, 28, 29, 30, 31, 32] (by decide +kernel) (by decide +kernel)
set_option maxRecDepth 20000 in
theorem gX2_dirty_X1_isDirty : GoodIn wsX2_dirty (wsV RX2 66 RX1 yX1_isDirty wsX1_isDirty) := goodIn_app (goodIn_of _ (by decide +kernel)) ggX2_dirty_X1_isDirty
theorem dX2_dirty_0 : decode cX2_dirty 0 = .ok (.aload_n 0, 1) := by decide +kernel
theorem dX2_dirty_1 : decode cX2_dirty 1 = .ok (.iload_n 1, 1) := by decide +kernel
theorem dX2_dirty_2 : decode cX2_dirty 2 = .ok (.invokevirtual 62, 3) := by decide +kernel
theorem dX2_dirty_5 : decode cX2_dirty 5 = .ok (.astore_n 3, 1) := by decide +kernel
theorem dX2_dirty_6 : decode cX2_dirty 6 = .ok (.aload_n 3, 1) := by decide +kernel
theorem dX2_dirty_7 : decode cX2_dirty 7 = .ok (.ifnull 22, 3) := by decide +kernel
theorem dX2_dirty_10 : decode cX2_dirty 10 = .ok (.iload_n 2, 1) := by decide +kernel
theorem dX2_dirty_11 : decode cX2_dirty 11 = .ok (.invokestatic 38, 3) := by decide +kernel
theorem dX2_dirty_14 : decode cX2_dirty 14 = .ok (.ifCond .eq 15, 3) := by decide +kernel
theorem dX2_dirty_17 : decode cX2_dirty 17 = .ok (.aload_n 3, 1) := by decide +kernel
theorem dX2_dirty_18 : decode cX2_dirty 18 = .ok (.iload_n 2, 1) := by decide +kernel
theorem dX2_dirty_19 : decode cX2_dirty 19 = .ok (.invokevirtual 66, 3) := by decide +kernel
theorem dX2_dirty_22 : decode cX2_dirty 22 = .ok (.ifCond .eq 7, 3) := by decide +kernel
theorem dX2_dirty_25 : decode cX2_dirty 25 = .ok (.iconst 1, 1) := by decide +kernel
theorem dX2_dirty_26 : decode cX2_dirty 26 = .ok (.goto 4, 3) := by decide +kernel
theorem dX2_dirty_29 : decode cX2_dirty 29 = .ok (.iconst 0, 1) := by decide +kernel
theorem dX2_dirty_30 : decode cX2_dirty 30 = .ok (.ireturn, 1) := by decide +kernel
set_option maxRecDepth 20000 in
theorem ggX2_marked_X2_tierAt : GoodIn wsX2_marked wsX2_tierAt := goodIn_r _ [5, 6, 7, 20, 21, 22, 23] (by decide +kernel) (by decide +kernel)
set_option maxRecDepth 20000 in
theorem gX2_marked_X2_tierAt : GoodIn wsX2_marked (wsV RX2 62 RX2 yX2_tierAt wsX2_tierAt) := goodIn_app (goodIn_of _ (by decide +kernel)) ggX2_marked_X2_tierAt
set_option maxRecDepth 20000 in
theorem ggX2_marked_X2_isPage : GoodIn wsX2_marked wsX2_isPage := goodIn_r _ [10] (by decide +kernel) (by decide +kernel)
set_option maxRecDepth 20000 in
theorem gX2_marked_X2_isPage : GoodIn wsX2_marked (va_wsS RX2 38 yX2_isPage wsX2_isPage) := goodIn_app (goodIn_of _ (by decide +kernel)) ggX2_marked_X2_isPage
set_option maxRecDepth 20000 in
theorem ggX2_marked_X1_isMarked : GoodIn wsX2_marked wsX1_isMarked := goodIn_r _ [15, 16, 17, 18, 14, 19, 24, 25, 26, 27, 28, 29, 30, 31, 32] (by decide +kernel) (by decide +kernel)
set_option maxRecDepth 20000 in
theorem gX2_marked_X1_isMarked : GoodIn wsX2_marked (wsV RX2 69 RX1 yX1_isMarked wsX1_isMarked) := goodIn_app (goodIn_of _ (by decide +kernel)) ggX2_marked_X1_isMarked
theorem dX2_marked_0 : decode cX2_marked 0 = .ok (.aload_n 0, 1) := by decide +kernel
theorem dX2_marked_1 : decode cX2_marked 1 = .ok (.iload_n 1, 1) := by decide +kernel
theorem dX2_marked_2 : decode cX2_marked 2 = .ok (.invokevirtual 62, 3) := by decide +kernel
theorem dX2_marked_5 : decode cX2_marked 5 = .ok (.astore_n 3, 1) := by decide +kernel
theorem dX2_marked_6 : decode cX2_marked 6 = .ok (.aload_n 3, 1) := by decide +kernel
theorem dX2_marked_7 : decode cX2_marked 7 = .ok (.ifnull 22, 3) := by decide +kernel
theorem dX2_marked_10 : decode cX2_marked 10 = .ok (.iload_n 2, 1) := by decide +kernel
theorem dX2_marked_11 : decode cX2_marked 11 = .ok (.invokestatic 38, 3) := by decide +kernel
theorem dX2_marked_14 : decode cX2_marked 14 = .ok (.ifCond .eq 15, 3) := by decide +kernel
theorem dX2_marked_17 : decode cX2_marked 17 = .ok (.aload_n 3, 1) := by decide +kernel
theorem dX2_marked_18 : decode cX2_marked 18 = .ok (.iload_n 2, 1) := by decide +kernel
theorem dX2_marked_19 : decode cX2_marked 19 = .ok (.invokevirtual 69, 3) := by decide +kernel
theorem dX2_marked_22 : decode cX2_marked 22 = .ok (.ifCond .eq 7, 3) := by decide +kernel
theorem dX2_marked_25 : decode cX2_marked 25 = .ok (.iconst 1, 1) := by decide +kernel
theorem dX2_marked_26 : decode cX2_marked 26 = .ok (.goto 4, 3) := by decide +kernel
theorem dX2_marked_29 : decode cX2_marked 29 = .ok (.iconst 0, 1) := by decide +kernel
theorem dX2_marked_30 : decode cX2_marked 30 = .ok (.ireturn, 1) := by decide +kernel
set_option maxRecDepth 20000 in
theorem ggX2_row_X2_tierAt : GoodIn wsX2_row wsX2_tierAt := goodIn_r _ [5, 6, 7, 21, 22, 23, 24] (by decide +kernel) (by decide +kernel)
set_option maxRecDepth 20000 in
theorem gX2_row_X2_tierAt : GoodIn wsX2_row (wsV RX2 62 RX2 yX2_tierAt wsX2_tierAt) := goodIn_app (goodIn_of _ (by decide +kernel)) ggX2_row_X2_tierAt
set_option maxRecDepth 20000 in
theorem ggX2_row_X1_pageAt : GoodIn wsX2_row wsX1_pageAt := goodIn_r _ [12, 13, 14, 15, 16, 17, 18, 19, 20, 25, 26, 27, 28, 29, 30, 31, 32, 33, 34, 35] (by decide +kernel) (by decide +kernel)
set_option maxRecDepth 20000 in
theorem gX2_row_X1_pageAt : GoodIn wsX2_row (wsV RX2 72 RX1 yX1_pageAt wsX1_pageAt) := goodIn_app (goodIn_of _ (by decide +kernel)) ggX2_row_X1_pageAt
theorem dX2_row_0 : decode cX2_row 0 = .ok (.aload_n 0, 1) := by decide +kernel
theorem dX2_row_1 : decode cX2_row 1 = .ok (.iload_n 1, 1) := by decide +kernel
theorem dX2_row_2 : decode cX2_row 2 = .ok (.invokevirtual 62, 3) := by decide +kernel
theorem dX2_row_5 : decode cX2_row 5 = .ok (.astore 4, 2) := by decide +kernel
theorem dX2_row_7 : decode cX2_row 7 = .ok (.aload 4, 2) := by decide +kernel
theorem dX2_row_9 : decode cX2_row 9 = .ok (.ifnonnull 7, 3) := by decide +kernel
theorem dX2_row_12 : decode cX2_row 12 = .ok (.iconst (-1), 1) := by decide +kernel
theorem dX2_row_13 : decode cX2_row 13 = .ok (.goto 10, 3) := by decide +kernel
theorem dX2_row_16 : decode cX2_row 16 = .ok (.aload 4, 2) := by decide +kernel
theorem dX2_row_18 : decode cX2_row 18 = .ok (.iload_n 2, 1) := by decide +kernel
theorem dX2_row_19 : decode cX2_row 19 = .ok (.iload_n 3, 1) := by decide +kernel
theorem dX2_row_20 : decode cX2_row 20 = .ok (.invokevirtual 72, 3) := by decide +kernel
theorem dX2_row_23 : decode cX2_row 23 = .ok (.ireturn, 1) := by decide +kernel
set_option maxRecDepth 20000 in
theorem ggX2_goal_X2_tierAt : GoodIn wsX2_goal wsX2_tierAt := goodIn_r _ [5, 6, 7, 15, 16, 17, 18] (by decide +kernel) (by decide +kernel)
set_option maxRecDepth 20000 in
theorem gX2_goal_X2_tierAt : GoodIn wsX2_goal (wsV RX2 62 RX2 yX2_tierAt wsX2_tierAt) := goodIn_app (goodIn_of _ (by decide +kernel)) ggX2_goal_X2_tierAt
set_option maxRecDepth 20000 in
theorem ggX2_goal_X1_currentGoal : GoodIn wsX2_goal wsX1_currentGoal := goodIn_r _ [12, 13, 14, 19, 20, 21, 22, 23, 24, 25, 26, 27] (by decide +kernel) (by decide +kernel)
set_option maxRecDepth 20000 in
theorem gX2_goal_X1_currentGoal : GoodIn wsX2_goal (wsV RX2 76 RX1 yX1_currentGoal wsX1_currentGoal) := goodIn_app (goodIn_of _ (by decide +kernel)) ggX2_goal_X1_currentGoal
theorem dX2_goal_0 : decode cX2_goal 0 = .ok (.aload_n 0, 1) := by decide +kernel
theorem dX2_goal_1 : decode cX2_goal 1 = .ok (.iload_n 1, 1) := by decide +kernel
theorem dX2_goal_2 : decode cX2_goal 2 = .ok (.invokevirtual 62, 3) := by decide +kernel
theorem dX2_goal_5 : decode cX2_goal 5 = .ok (.astore_n 2, 1) := by decide +kernel
theorem dX2_goal_6 : decode cX2_goal 6 = .ok (.aload_n 2, 1) := by decide +kernel
theorem dX2_goal_7 : decode cX2_goal 7 = .ok (.ifnonnull 7, 3) := by decide +kernel
theorem dX2_goal_10 : decode cX2_goal 10 = .ok (.iconst (-1), 1) := by decide +kernel
theorem dX2_goal_11 : decode cX2_goal 11 = .ok (.goto 7, 3) := by decide +kernel
theorem dX2_goal_14 : decode cX2_goal 14 = .ok (.aload_n 2, 1) := by decide +kernel
theorem dX2_goal_15 : decode cX2_goal 15 = .ok (.invokevirtual 76, 3) := by decide +kernel
theorem dX2_goal_18 : decode cX2_goal 18 = .ok (.ireturn, 1) := by decide +kernel
set_option maxRecDepth 20000 in
theorem ggX2_count_X2_tierAt : GoodIn wsX2_count wsX2_tierAt := goodIn_r _ [5, 6, 7, 16, 17, 18, 19] (by decide +kernel) (by decide +kernel)
set_option maxRecDepth 20000 in
theorem gX2_count_X2_tierAt : GoodIn wsX2_count (wsV RX2 62 RX2 yX2_tierAt wsX2_tierAt) := goodIn_app (goodIn_of _ (by decide +kernel)) ggX2_count_X2_tierAt
set_option maxRecDepth 20000 in
theorem ggX2_count_X1_tally : GoodIn wsX2_count wsX1_tally := goodIn_r _ [12, 13, 14, 15, 20, 21, 22, 23, 24, 25, 26, 27, 28] (by decide +kernel) (by decide +kernel)
set_option maxRecDepth 20000 in
theorem gX2_count_X1_tally : GoodIn wsX2_count (wsV RX2 80 RX1 yX1_tally wsX1_tally) := goodIn_app (goodIn_of _ (by decide +kernel)) ggX2_count_X1_tally
theorem dX2_count_0 : decode cX2_count 0 = .ok (.aload_n 0, 1) := by decide +kernel
theorem dX2_count_1 : decode cX2_count 1 = .ok (.iload_n 1, 1) := by decide +kernel
theorem dX2_count_2 : decode cX2_count 2 = .ok (.invokevirtual 62, 3) := by decide +kernel
theorem dX2_count_5 : decode cX2_count 5 = .ok (.astore_n 3, 1) := by decide +kernel
theorem dX2_count_6 : decode cX2_count 6 = .ok (.aload_n 3, 1) := by decide +kernel
theorem dX2_count_7 : decode cX2_count 7 = .ok (.ifnonnull 7, 3) := by decide +kernel
theorem dX2_count_10 : decode cX2_count 10 = .ok (.iconst (-1), 1) := by decide +kernel
theorem dX2_count_11 : decode cX2_count 11 = .ok (.goto 8, 3) := by decide +kernel
theorem dX2_count_14 : decode cX2_count 14 = .ok (.aload_n 3, 1) := by decide +kernel
theorem dX2_count_15 : decode cX2_count 15 = .ok (.iload_n 2, 1) := by decide +kernel
theorem dX2_count_16 : decode cX2_count 16 = .ok (.invokevirtual 80, 3) := by decide +kernel
theorem dX2_count_19 : decode cX2_count 19 = .ok (.ireturn, 1) := by decide +kernel
theorem dX2_reads_0 : decode cX2_reads 0 = .ok (.aload_n 0, 1) := by decide +kernel
theorem dX2_reads_1 : decode cX2_reads 1 = .ok (.getfield 31, 3) := by decide +kernel
theorem dX2_reads_4 : decode cX2_reads 4 = .ok (.ireturn, 1) := by decide +kernel
theorem dX2_writes_0 : decode cX2_writes 0 = .ok (.aload_n 0, 1) := by decide +kernel
theorem dX2_writes_1 : decode cX2_writes 1 = .ok (.getfield 35, 3) := by decide +kernel
theorem dX2_writes_4 : decode cX2_writes 4 = .ok (.ireturn, 1) := by decide +kernel
set_option maxRecDepth 20000 in
theorem ggX2_askLower_X1_holds : GoodIn wsX2_askLower wsX1_holds := goodIn_r _ [8, 9, 10, 11, 12, 13, 14, 15, 16, 17, 18, 19, 20, 21, 142, 143, 144, 145, 146, 147, 148, 149, 150, 151, 152] (by decide +kernel) (by decide +kernel)
set_option maxRecDepth 20000 in
theorem gX2_askLower_X1_holds : GoodIn wsX2_askLower (wsV RX2 41 RX1 yX1_holds wsX1_holds) := goodIn_app (goodIn_of _ (by decide +kernel)) ggX2_askLower_X1_holds
set_option maxRecDepth 20000 in
theorem ggX2_askLower_X1_touch : GoodIn wsX2_askLower wsX1_touch := goodIn_r _ [25, 26, 27, 9, 28, 5, 6, 7, 8, 10, 11, 12, 13, 14, 15, 16, 17, 18, 19, 20, 21, 29, 30, 31, 32, 33, 34, 35, 36, 37, 38, 39, 40, 41, 42, 43, 44, 45, 46, 47, 48, 49, 50, 51, 52, 53, 54, 55, 56, 57, 58, 59, 60, 61, 62, 63, 64, 65, 66, 67, 68, 69, 70, 71, 72, 73, 74, 75, 76, 77, 78, 79, 80, 81, 82, 83, 84, 85, 86, 87, 88, 89, 90, 91, 92, 93, 94, 95, 96, 97, 98, 99, 100, 101, 102, 103, 104, 105, 106, 107, 108, 109, 110, 111, 112, 113, 114, 115, 116, 117, 118, 119, 142, 143, 144, 145, 146, 147, 148, 149, 150, 151, 152] (by decide +kernel) (by decide +kernel)
set_option maxRecDepth 20000 in
theorem gX2_askLower_X1_touch : GoodIn wsX2_askLower (wsV RX2 44 RX1 yX1_touch wsX1_touch) := goodIn_app (goodIn_of _ (by decide +kernel)) ggX2_askLower_X1_touch
set_option maxRecDepth 20000 in
theorem ggX2_askLower_X1_cleanVictim : GoodIn wsX2_askLower wsX1_cleanVictim := goodIn_r _ [123, 124, 125, 126, 127, 7, 128, 129, 66, 130, 131, 132, 133, 59, 60, 61, 142, 143, 144, 145, 146, 147, 148, 149, 150] (by decide +kernel) (by decide +kernel)
set_option maxRecDepth 20000 in
theorem gX2_askLower_X1_cleanVictim : GoodIn wsX2_askLower (wsV RX2 52 RX1 yX1_cleanVictim wsX1_cleanVictim) := goodIn_app (goodIn_of _ (by decide +kernel)) ggX2_askLower_X1_cleanVictim
set_option maxRecDepth 20000 in
theorem ggX2_askLower_X1_soil : GoodIn wsX2_askLower wsX1_soil := goodIn_r _ [137, 129, 59, 60, 7, 61, 142, 143, 144, 145, 146, 147, 148, 149, 150] (by decide +kernel) (by decide +kernel)
set_option maxRecDepth 20000 in
theorem gX2_askLower_X1_soil : GoodIn wsX2_askLower (wsV RX2 55 RX1 yX1_soil wsX1_soil) := goodIn_app (goodIn_of _ (by decide +kernel)) ggX2_askLower_X1_soil
theorem dX2_askLower_0 : decode cX2_askLower 0 = .ok (.aload_n 0, 1) := by decide +kernel
theorem dX2_askLower_1 : decode cX2_askLower 1 = .ok (.getfield 18, 3) := by decide +kernel
theorem dX2_askLower_4 : decode cX2_askLower 4 = .ok (.iload_n 1, 1) := by decide +kernel
theorem dX2_askLower_5 : decode cX2_askLower 5 = .ok (.invokevirtual 41, 3) := by decide +kernel
theorem dX2_askLower_8 : decode cX2_askLower 8 = .ok (.istore_n 3, 1) := by decide +kernel
theorem dX2_askLower_9 : decode cX2_askLower 9 = .ok (.aload_n 0, 1) := by decide +kernel
theorem dX2_askLower_10 : decode cX2_askLower 10 = .ok (.getfield 18, 3) := by decide +kernel
theorem dX2_askLower_13 : decode cX2_askLower 13 = .ok (.iload_n 1, 1) := by decide +kernel
theorem dX2_askLower_14 : decode cX2_askLower 14 = .ok (.invokevirtual 44, 3) := by decide +kernel
theorem dX2_askLower_17 : decode cX2_askLower 17 = .ok (.istore 4, 2) := by decide +kernel
theorem dX2_askLower_19 : decode cX2_askLower 19 = .ok (.iload_n 3, 1) := by decide +kernel
theorem dX2_askLower_20 : decode cX2_askLower 20 = .ok (.ifCond .ne 17, 3) := by decide +kernel
theorem dX2_askLower_23 : decode cX2_askLower 23 = .ok (.iload_n 2, 1) := by decide +kernel
theorem dX2_askLower_24 : decode cX2_askLower 24 = .ok (.ifCond .ne 13, 3) := by decide +kernel
theorem dX2_askLower_27 : decode cX2_askLower 27 = .ok (.aload_n 0, 1) := by decide +kernel
theorem dX2_askLower_28 : decode cX2_askLower 28 = .ok (.dup, 1) := by decide +kernel
theorem dX2_askLower_29 : decode cX2_askLower 29 = .ok (.getfield 31, 3) := by decide +kernel
theorem dX2_askLower_32 : decode cX2_askLower 32 = .ok (.iconst 1, 1) := by decide +kernel
theorem dX2_askLower_33 : decode cX2_askLower 33 = .ok (.iadd, 1) := by decide +kernel
theorem dX2_askLower_34 : decode cX2_askLower 34 = .ok (.putfield 31, 3) := by decide +kernel
theorem dX2_askLower_37 : decode cX2_askLower 37 = .ok (.aload_n 0, 1) := by decide +kernel
theorem dX2_askLower_38 : decode cX2_askLower 38 = .ok (.getfield 18, 3) := by decide +kernel
theorem dX2_askLower_41 : decode cX2_askLower 41 = .ok (.iload 4, 2) := by decide +kernel
theorem dX2_askLower_43 : decode cX2_askLower 43 = .ok (.invokevirtual 52, 3) := by decide +kernel
theorem dX2_askLower_46 : decode cX2_askLower 46 = .ok (.ifCond .eq 13, 3) := by decide +kernel
theorem dX2_askLower_49 : decode cX2_askLower 49 = .ok (.aload_n 0, 1) := by decide +kernel
theorem dX2_askLower_50 : decode cX2_askLower 50 = .ok (.dup, 1) := by decide +kernel
theorem dX2_askLower_51 : decode cX2_askLower 51 = .ok (.getfield 35, 3) := by decide +kernel
theorem dX2_askLower_54 : decode cX2_askLower 54 = .ok (.iconst 1, 1) := by decide +kernel
theorem dX2_askLower_55 : decode cX2_askLower 55 = .ok (.iadd, 1) := by decide +kernel
theorem dX2_askLower_56 : decode cX2_askLower 56 = .ok (.putfield 35, 3) := by decide +kernel
theorem dX2_askLower_59 : decode cX2_askLower 59 = .ok (.iload_n 2, 1) := by decide +kernel
theorem dX2_askLower_60 : decode cX2_askLower 60 = .ok (.ifCond .eq 11, 3) := by decide +kernel
theorem dX2_askLower_63 : decode cX2_askLower 63 = .ok (.aload_n 0, 1) := by decide +kernel
theorem dX2_askLower_64 : decode cX2_askLower 64 = .ok (.getfield 18, 3) := by decide +kernel
theorem dX2_askLower_67 : decode cX2_askLower 67 = .ok (.iload_n 1, 1) := by decide +kernel
theorem dX2_askLower_68 : decode cX2_askLower 68 = .ok (.invokevirtual 55, 3) := by decide +kernel
theorem dX2_askLower_71 : decode cX2_askLower 71 = .ok (.iload_n 3, 1) := by decide +kernel
theorem dX2_askLower_72 : decode cX2_askLower 72 = .ok (.ireturn, 1) := by decide +kernel
theorem dX2_tierAt_0 : decode cX2_tierAt 0 = .ok (.iload_n 1, 1) := by decide +kernel
theorem dX2_tierAt_1 : decode cX2_tierAt 1 = .ok (.ifCond .ne 8, 3) := by decide +kernel
theorem dX2_tierAt_4 : decode cX2_tierAt 4 = .ok (.aload_n 0, 1) := by decide +kernel
theorem dX2_tierAt_5 : decode cX2_tierAt 5 = .ok (.getfield 14, 3) := by decide +kernel
theorem dX2_tierAt_8 : decode cX2_tierAt 8 = .ok (.areturn, 1) := by decide +kernel
theorem dX2_tierAt_9 : decode cX2_tierAt 9 = .ok (.iload_n 1, 1) := by decide +kernel
theorem dX2_tierAt_10 : decode cX2_tierAt 10 = .ok (.iconst 1, 1) := by decide +kernel
theorem dX2_tierAt_11 : decode cX2_tierAt 11 = .ok (.if_icmp .ne 10, 3) := by decide +kernel
theorem dX2_tierAt_14 : decode cX2_tierAt 14 = .ok (.aload_n 0, 1) := by decide +kernel
theorem dX2_tierAt_15 : decode cX2_tierAt 15 = .ok (.getfield 18, 3) := by decide +kernel
theorem dX2_tierAt_18 : decode cX2_tierAt 18 = .ok (.goto 4, 3) := by decide +kernel
theorem dX2_tierAt_21 : decode cX2_tierAt 21 = .ok (.aconst_null, 1) := by decide +kernel
theorem dX2_tierAt_22 : decode cX2_tierAt 22 = .ok (.areturn, 1) := by decide +kernel
theorem dX2_isPage_0 : decode cX2_isPage 0 = .ok (.iload_n 0, 1) := by decide +kernel
theorem dX2_isPage_1 : decode cX2_isPage 1 = .ok (.ifCond .lt 13, 3) := by decide +kernel
theorem dX2_isPage_4 : decode cX2_isPage 4 = .ok (.iload_n 0, 1) := by decide +kernel
theorem dX2_isPage_5 : decode cX2_isPage 5 = .ok (.bipush 64, 2) := by decide +kernel
theorem dX2_isPage_7 : decode cX2_isPage 7 = .ok (.if_icmp .ge 7, 3) := by decide +kernel
theorem dX2_isPage_10 : decode cX2_isPage 10 = .ok (.iconst 1, 1) := by decide +kernel
theorem dX2_isPage_11 : decode cX2_isPage 11 = .ok (.goto 4, 3) := by decide +kernel
theorem dX2_isPage_14 : decode cX2_isPage 14 = .ok (.iconst 0, 1) := by decide +kernel
theorem dX2_isPage_15 : decode cX2_isPage 15 = .ok (.ireturn, 1) := by decide +kernel
theorem dX2_isPolicy_0 : decode cX2_isPolicy 0 = .ok (.iload_n 0, 1) := by decide +kernel
theorem dX2_isPolicy_1 : decode cX2_isPolicy 1 = .ok (.ifCond .lt 12, 3) := by decide +kernel
theorem dX2_isPolicy_4 : decode cX2_isPolicy 4 = .ok (.iload_n 0, 1) := by decide +kernel
theorem dX2_isPolicy_5 : decode cX2_isPolicy 5 = .ok (.iconst 3, 1) := by decide +kernel
theorem dX2_isPolicy_6 : decode cX2_isPolicy 6 = .ok (.if_icmp .gt 7, 3) := by decide +kernel
theorem dX2_isPolicy_9 : decode cX2_isPolicy 9 = .ok (.iconst 1, 1) := by decide +kernel
theorem dX2_isPolicy_10 : decode cX2_isPolicy 10 = .ok (.goto 4, 3) := by decide +kernel
theorem dX2_isPolicy_13 : decode cX2_isPolicy 13 = .ok (.iconst 0, 1) := by decide +kernel
theorem dX2_isPolicy_14 : decode cX2_isPolicy 14 = .ok (.ireturn, 1) := by decide +kernel
theorem dX2_isCapacity_0 : decode cX2_isCapacity 0 = .ok (.iload_n 0, 1) := by decide +kernel
theorem dX2_isCapacity_1 : decode cX2_isCapacity 1 = .ok (.iconst 1, 1) := by decide +kernel
theorem dX2_isCapacity_2 : decode cX2_isCapacity 2 = .ok (.if_icmp .lt 13, 3) := by decide +kernel
theorem dX2_isCapacity_5 : decode cX2_isCapacity 5 = .ok (.iload_n 0, 1) := by decide +kernel
theorem dX2_isCapacity_6 : decode cX2_isCapacity 6 = .ok (.bipush 16, 2) := by decide +kernel
theorem dX2_isCapacity_8 : decode cX2_isCapacity 8 = .ok (.if_icmp .gt 7, 3) := by decide +kernel
theorem dX2_isCapacity_11 : decode cX2_isCapacity 11 = .ok (.iconst 1, 1) := by decide +kernel
theorem dX2_isCapacity_12 : decode cX2_isCapacity 12 = .ok (.goto 4, 3) := by decide +kernel
theorem dX2_isCapacity_15 : decode cX2_isCapacity 15 = .ok (.iconst 0, 1) := by decide +kernel
theorem dX2_isCapacity_16 : decode cX2_isCapacity 16 = .ok (.ireturn, 1) := by decide +kernel
end
section
theorem dX3_init_0 : decode cX3_init 0 = .ok (.aload_n 0, 1) := by decide +kernel
theorem dX3_init_1 : decode cX3_init 1 = .ok (.invokespecial 1, 3) := by decide +kernel
theorem dX3_init_4 : decode cX3_init 4 = .ok (.aload_n 0, 1) := by decide +kernel
theorem dX3_init_5 : decode cX3_init 5 = .ok (.iconst 2, 1) := by decide +kernel
theorem dX3_init_6 : decode cX3_init 6 = .ok (.newarray .int, 2) := by decide +kernel
theorem dX3_init_8 : decode cX3_init 8 = .ok (.putfield 7, 3) := by decide +kernel
theorem dX3_init_11 : decode cX3_init 11 = .ok (.aload_n 0, 1) := by decide +kernel
theorem dX3_init_12 : decode cX3_init 12 = .ok (.iconst 2, 1) := by decide +kernel
theorem dX3_init_13 : decode cX3_init 13 = .ok (.newarray .int, 2) := by decide +kernel
theorem dX3_init_15 : decode cX3_init 15 = .ok (.dup, 1) := by decide +kernel
theorem dX3_init_16 : decode cX3_init 16 = .ok (.iconst 0, 1) := by decide +kernel
theorem dX3_init_17 : decode cX3_init 17 = .ok (.iconst 4, 1) := by decide +kernel
theorem dX3_init_18 : decode cX3_init 18 = .ok (.iastore, 1) := by decide +kernel
theorem dX3_init_19 : decode cX3_init 19 = .ok (.dup, 1) := by decide +kernel
theorem dX3_init_20 : decode cX3_init 20 = .ok (.iconst 1, 1) := by decide +kernel
theorem dX3_init_21 : decode cX3_init 21 = .ok (.bipush 8, 2) := by decide +kernel
theorem dX3_init_23 : decode cX3_init 23 = .ok (.iastore, 1) := by decide +kernel
theorem dX3_init_24 : decode cX3_init 24 = .ok (.putfield 13, 3) := by decide +kernel
theorem dX3_init_27 : decode cX3_init 27 = .ok (.aload_n 0, 1) := by decide +kernel
theorem dX3_init_28 : decode cX3_init 28 = .ok (.iconst 2, 1) := by decide +kernel
theorem dX3_init_29 : decode cX3_init 29 = .ok (.newarray .int, 2) := by decide +kernel
theorem dX3_init_31 : decode cX3_init 31 = .ok (.putfield 16, 3) := by decide +kernel
theorem dX3_init_34 : decode cX3_init 34 = .ok (.aload_n 0, 1) := by decide +kernel
theorem dX3_init_35 : decode cX3_init 35 = .ok (.bipush 8, 2) := by decide +kernel
theorem dX3_init_37 : decode cX3_init 37 = .ok (.newarray .int, 2) := by decide +kernel
theorem dX3_init_39 : decode cX3_init 39 = .ok (.putfield 19, 3) := by decide +kernel
theorem dX3_init_42 : decode cX3_init 42 = .ok (.aload_n 0, 1) := by decide +kernel
theorem dX3_init_43 : decode cX3_init 43 = .ok (.sipush 160, 3) := by decide +kernel
theorem dX3_init_46 : decode cX3_init 46 = .ok (.newarray .int, 2) := by decide +kernel
theorem dX3_init_48 : decode cX3_init 48 = .ok (.putfield 22, 3) := by decide +kernel
theorem dX3_init_51 : decode cX3_init 51 = .ok (.aload_n 0, 1) := by decide +kernel
theorem dX3_init_52 : decode cX3_init 52 = .ok (.sipush 128, 3) := by decide +kernel
theorem dX3_init_55 : decode cX3_init 55 = .ok (.newarray .boolean, 2) := by decide +kernel
theorem dX3_init_57 : decode cX3_init 57 = .ok (.putfield 25, 3) := by decide +kernel
theorem dX3_init_60 : decode cX3_init 60 = .ok (.aload_n 0, 1) := by decide +kernel
theorem dX3_init_61 : decode cX3_init 61 = .ok (.sipush 128, 3) := by decide +kernel
theorem dX3_init_64 : decode cX3_init 64 = .ok (.newarray .boolean, 2) := by decide +kernel
theorem dX3_init_66 : decode cX3_init 66 = .ok (.putfield 29, 3) := by decide +kernel
theorem dX3_init_69 : decode cX3_init 69 = .ok (.aload_n 0, 1) := by decide +kernel
theorem dX3_init_70 : decode cX3_init 70 = .ok (.bipush 6, 2) := by decide +kernel
theorem dX3_init_72 : decode cX3_init 72 = .ok (.newarray .int, 2) := by decide +kernel
theorem dX3_init_74 : decode cX3_init 74 = .ok (.putfield 32, 3) := by decide +kernel
theorem dX3_init_77 : decode cX3_init 77 = .ok (.return_, 1) := by decide +kernel
theorem dX3_isTier_0 : decode cX3_isTier 0 = .ok (.iload_n 0, 1) := by decide +kernel
theorem dX3_isTier_1 : decode cX3_isTier 1 = .ok (.ifCond .eq 8, 3) := by decide +kernel
theorem dX3_isTier_4 : decode cX3_isTier 4 = .ok (.iload_n 0, 1) := by decide +kernel
theorem dX3_isTier_5 : decode cX3_isTier 5 = .ok (.iconst 1, 1) := by decide +kernel
theorem dX3_isTier_6 : decode cX3_isTier 6 = .ok (.if_icmp .ne 7, 3) := by decide +kernel
theorem dX3_isTier_9 : decode cX3_isTier 9 = .ok (.iconst 1, 1) := by decide +kernel
theorem dX3_isTier_10 : decode cX3_isTier 10 = .ok (.goto 4, 3) := by decide +kernel
theorem dX3_isTier_13 : decode cX3_isTier 13 = .ok (.iconst 0, 1) := by decide +kernel
theorem dX3_isTier_14 : decode cX3_isTier 14 = .ok (.ireturn, 1) := by decide +kernel
theorem dX3_isPage_0 : decode cX3_isPage 0 = .ok (.iload_n 0, 1) := by decide +kernel
theorem dX3_isPage_1 : decode cX3_isPage 1 = .ok (.ifCond .lt 13, 3) := by decide +kernel
theorem dX3_isPage_4 : decode cX3_isPage 4 = .ok (.iload_n 0, 1) := by decide +kernel
theorem dX3_isPage_5 : decode cX3_isPage 5 = .ok (.bipush 64, 2) := by decide +kernel
theorem dX3_isPage_7 : decode cX3_isPage 7 = .ok (.if_icmp .ge 7, 3) := by decide +kernel
theorem dX3_isPage_10 : decode cX3_isPage 10 = .ok (.iconst 1, 1) := by decide +kernel
theorem dX3_isPage_11 : decode cX3_isPage 11 = .ok (.goto 4, 3) := by decide +kernel
theorem dX3_isPage_14 : decode cX3_isPage 14 = .ok (.iconst 0, 1) := by decide +kernel
theorem dX3_isPage_15 : decode cX3_isPage 15 = .ok (.ireturn, 1) := by decide +kernel
theorem dX3_begin_0 : decode cX3_begin 0 = .ok (.iload_n 1, 1) := by decide +kernel
theorem dX3_begin_1 : decode cX3_begin 1 = .ok (.ifCond .lt 43, 3) := by decide +kernel
theorem dX3_begin_4 : decode cX3_begin 4 = .ok (.iload_n 1, 1) := by decide +kernel
theorem dX3_begin_5 : decode cX3_begin 5 = .ok (.iconst 4, 1) := by decide +kernel
theorem dX3_begin_6 : decode cX3_begin 6 = .ok (.if_icmp .ge 38, 3) := by decide +kernel
theorem dX3_begin_9 : decode cX3_begin 9 = .ok (.iload_n 3, 1) := by decide +kernel
theorem dX3_begin_10 : decode cX3_begin 10 = .ok (.ifCond .lt 34, 3) := by decide +kernel
theorem dX3_begin_13 : decode cX3_begin 13 = .ok (.iload_n 3, 1) := by decide +kernel
theorem dX3_begin_14 : decode cX3_begin 14 = .ok (.iconst 4, 1) := by decide +kernel
theorem dX3_begin_15 : decode cX3_begin 15 = .ok (.if_icmp .ge 29, 3) := by decide +kernel
theorem dX3_begin_18 : decode cX3_begin 18 = .ok (.iload_n 2, 1) := by decide +kernel
theorem dX3_begin_19 : decode cX3_begin 19 = .ok (.ifCond .le 25, 3) := by decide +kernel
theorem dX3_begin_22 : decode cX3_begin 22 = .ok (.iload_n 2, 1) := by decide +kernel
theorem dX3_begin_23 : decode cX3_begin 23 = .ok (.bipush 17, 2) := by decide +kernel
theorem dX3_begin_25 : decode cX3_begin 25 = .ok (.if_icmp .ge 19, 3) := by decide +kernel
theorem dX3_begin_28 : decode cX3_begin 28 = .ok (.iload 4, 2) := by decide +kernel
theorem dX3_begin_30 : decode cX3_begin 30 = .ok (.ifCond .le 14, 3) := by decide +kernel
theorem dX3_begin_33 : decode cX3_begin 33 = .ok (.iload 4, 2) := by decide +kernel
theorem dX3_begin_35 : decode cX3_begin 35 = .ok (.bipush 17, 2) := by decide +kernel
theorem dX3_begin_37 : decode cX3_begin 37 = .ok (.if_icmp .ge 7, 3) := by decide +kernel
theorem dX3_begin_40 : decode cX3_begin 40 = .ok (.iconst 1, 1) := by decide +kernel
theorem dX3_begin_41 : decode cX3_begin 41 = .ok (.goto 4, 3) := by decide +kernel
theorem dX3_begin_44 : decode cX3_begin 44 = .ok (.iconst 0, 1) := by decide +kernel
theorem dX3_begin_45 : decode cX3_begin 45 = .ok (.istore 5, 2) := by decide +kernel
theorem dX3_begin_47 : decode cX3_begin 47 = .ok (.iload 5, 2) := by decide +kernel
theorem dX3_begin_49 : decode cX3_begin 49 = .ok (.ifCond .ne 5, 3) := by decide +kernel
theorem dX3_begin_52 : decode cX3_begin 52 = .ok (.iconst 0, 1) := by decide +kernel
theorem dX3_begin_53 : decode cX3_begin 53 = .ok (.ireturn, 1) := by decide +kernel
theorem dX3_begin_54 : decode cX3_begin 54 = .ok (.aload_n 0, 1) := by decide +kernel
theorem dX3_begin_55 : decode cX3_begin 55 = .ok (.getfield 7, 3) := by decide +kernel
theorem dX3_begin_58 : decode cX3_begin 58 = .ok (.iconst 0, 1) := by decide +kernel
theorem dX3_begin_59 : decode cX3_begin 59 = .ok (.iload_n 1, 1) := by decide +kernel
theorem dX3_begin_60 : decode cX3_begin 60 = .ok (.iastore, 1) := by decide +kernel
theorem dX3_begin_61 : decode cX3_begin 61 = .ok (.aload_n 0, 1) := by decide +kernel
theorem dX3_begin_62 : decode cX3_begin 62 = .ok (.getfield 7, 3) := by decide +kernel
theorem dX3_begin_65 : decode cX3_begin 65 = .ok (.iconst 1, 1) := by decide +kernel
theorem dX3_begin_66 : decode cX3_begin 66 = .ok (.iload_n 3, 1) := by decide +kernel
theorem dX3_begin_67 : decode cX3_begin 67 = .ok (.iastore, 1) := by decide +kernel
theorem dX3_begin_68 : decode cX3_begin 68 = .ok (.aload_n 0, 1) := by decide +kernel
theorem dX3_begin_69 : decode cX3_begin 69 = .ok (.getfield 13, 3) := by decide +kernel
theorem dX3_begin_72 : decode cX3_begin 72 = .ok (.iconst 0, 1) := by decide +kernel
theorem dX3_begin_73 : decode cX3_begin 73 = .ok (.iload_n 2, 1) := by decide +kernel
theorem dX3_begin_74 : decode cX3_begin 74 = .ok (.iastore, 1) := by decide +kernel
theorem dX3_begin_75 : decode cX3_begin 75 = .ok (.aload_n 0, 1) := by decide +kernel
theorem dX3_begin_76 : decode cX3_begin 76 = .ok (.getfield 13, 3) := by decide +kernel
theorem dX3_begin_79 : decode cX3_begin 79 = .ok (.iconst 1, 1) := by decide +kernel
theorem dX3_begin_80 : decode cX3_begin 80 = .ok (.iload 4, 2) := by decide +kernel
theorem dX3_begin_82 : decode cX3_begin 82 = .ok (.iastore, 1) := by decide +kernel
theorem dX3_begin_83 : decode cX3_begin 83 = .ok (.iconst 0, 1) := by decide +kernel
theorem dX3_begin_84 : decode cX3_begin 84 = .ok (.istore 6, 2) := by decide +kernel
theorem dX3_begin_86 : decode cX3_begin 86 = .ok (.iload 6, 2) := by decide +kernel
theorem dX3_begin_88 : decode cX3_begin 88 = .ok (.bipush 8, 2) := by decide +kernel
theorem dX3_begin_90 : decode cX3_begin 90 = .ok (.if_icmp .ge 17, 3) := by decide +kernel
theorem dX3_begin_93 : decode cX3_begin 93 = .ok (.aload_n 0, 1) := by decide +kernel
theorem dX3_begin_94 : decode cX3_begin 94 = .ok (.getfield 19, 3) := by decide +kernel
theorem dX3_begin_97 : decode cX3_begin 97 = .ok (.iload 6, 2) := by decide +kernel
theorem dX3_begin_99 : decode cX3_begin 99 = .ok (.iconst 0, 1) := by decide +kernel
theorem dX3_begin_100 : decode cX3_begin 100 = .ok (.iastore, 1) := by decide +kernel
theorem dX3_begin_101 : decode cX3_begin 101 = .ok (.iinc 6 1, 3) := by decide +kernel
theorem dX3_begin_104 : decode cX3_begin 104 = .ok (.goto (-18), 3) := by decide +kernel
theorem dX3_begin_107 : decode cX3_begin 107 = .ok (.iconst 0, 1) := by decide +kernel
theorem dX3_begin_108 : decode cX3_begin 108 = .ok (.istore 6, 2) := by decide +kernel
theorem dX3_begin_110 : decode cX3_begin 110 = .ok (.iload 6, 2) := by decide +kernel
theorem dX3_begin_112 : decode cX3_begin 112 = .ok (.sipush 128, 3) := by decide +kernel
theorem dX3_begin_115 : decode cX3_begin 115 = .ok (.if_icmp .ge 25, 3) := by decide +kernel
theorem dX3_begin_118 : decode cX3_begin 118 = .ok (.aload_n 0, 1) := by decide +kernel
theorem dX3_begin_119 : decode cX3_begin 119 = .ok (.getfield 25, 3) := by decide +kernel
theorem dX3_begin_122 : decode cX3_begin 122 = .ok (.iload 6, 2) := by decide +kernel
theorem dX3_begin_124 : decode cX3_begin 124 = .ok (.iconst 0, 1) := by decide +kernel
theorem dX3_begin_125 : decode cX3_begin 125 = .ok (.bastore, 1) := by decide +kernel
theorem dX3_begin_126 : decode cX3_begin 126 = .ok (.aload_n 0, 1) := by decide +kernel
theorem dX3_begin_127 : decode cX3_begin 127 = .ok (.getfield 29, 3) := by decide +kernel
theorem dX3_begin_130 : decode cX3_begin 130 = .ok (.iload 6, 2) := by decide +kernel
theorem dX3_begin_132 : decode cX3_begin 132 = .ok (.iconst 0, 1) := by decide +kernel
theorem dX3_begin_133 : decode cX3_begin 133 = .ok (.bastore, 1) := by decide +kernel
theorem dX3_begin_134 : decode cX3_begin 134 = .ok (.iinc 6 1, 3) := by decide +kernel
theorem dX3_begin_137 : decode cX3_begin 137 = .ok (.goto (-27), 3) := by decide +kernel
theorem dX3_begin_140 : decode cX3_begin 140 = .ok (.iconst 0, 1) := by decide +kernel
theorem dX3_begin_141 : decode cX3_begin 141 = .ok (.istore 6, 2) := by decide +kernel
theorem dX3_begin_143 : decode cX3_begin 143 = .ok (.iload 6, 2) := by decide +kernel
theorem dX3_begin_145 : decode cX3_begin 145 = .ok (.bipush 6, 2) := by decide +kernel
theorem dX3_begin_147 : decode cX3_begin 147 = .ok (.if_icmp .ge 17, 3) := by decide +kernel
theorem dX3_begin_150 : decode cX3_begin 150 = .ok (.aload_n 0, 1) := by decide +kernel
theorem dX3_begin_151 : decode cX3_begin 151 = .ok (.getfield 32, 3) := by decide +kernel
theorem dX3_begin_154 : decode cX3_begin 154 = .ok (.iload 6, 2) := by decide +kernel
theorem dX3_begin_156 : decode cX3_begin 156 = .ok (.iconst 0, 1) := by decide +kernel
theorem dX3_begin_157 : decode cX3_begin 157 = .ok (.iastore, 1) := by decide +kernel
theorem dX3_begin_158 : decode cX3_begin 158 = .ok (.iinc 6 1, 3) := by decide +kernel
theorem dX3_begin_161 : decode cX3_begin 161 = .ok (.goto (-18), 3) := by decide +kernel
theorem dX3_begin_164 : decode cX3_begin 164 = .ok (.aload_n 0, 1) := by decide +kernel
theorem dX3_begin_165 : decode cX3_begin 165 = .ok (.getfield 16, 3) := by decide +kernel
theorem dX3_begin_168 : decode cX3_begin 168 = .ok (.iconst 0, 1) := by decide +kernel
theorem dX3_begin_169 : decode cX3_begin 169 = .ok (.iconst 0, 1) := by decide +kernel
theorem dX3_begin_170 : decode cX3_begin 170 = .ok (.iastore, 1) := by decide +kernel
theorem dX3_begin_171 : decode cX3_begin 171 = .ok (.aload_n 0, 1) := by decide +kernel
theorem dX3_begin_172 : decode cX3_begin 172 = .ok (.getfield 16, 3) := by decide +kernel
theorem dX3_begin_175 : decode cX3_begin 175 = .ok (.iconst 1, 1) := by decide +kernel
theorem dX3_begin_176 : decode cX3_begin 176 = .ok (.iconst 0, 1) := by decide +kernel
theorem dX3_begin_177 : decode cX3_begin 177 = .ok (.iastore, 1) := by decide +kernel
theorem dX3_begin_178 : decode cX3_begin 178 = .ok (.aload_n 0, 1) := by decide +kernel
theorem dX3_begin_179 : decode cX3_begin 179 = .ok (.iconst 0, 1) := by decide +kernel
theorem dX3_begin_180 : decode cX3_begin 180 = .ok (.putfield 35, 3) := by decide +kernel
theorem dX3_begin_183 : decode cX3_begin 183 = .ok (.aload_n 0, 1) := by decide +kernel
theorem dX3_begin_184 : decode cX3_begin 184 = .ok (.iconst 0, 1) := by decide +kernel
theorem dX3_begin_185 : decode cX3_begin 185 = .ok (.putfield 39, 3) := by decide +kernel
theorem dX3_begin_188 : decode cX3_begin 188 = .ok (.iconst 1, 1) := by decide +kernel
theorem dX3_begin_189 : decode cX3_begin 189 = .ok (.ireturn, 1) := by decide +kernel
theorem dX3_placeIn_0 : decode cX3_placeIn 0 = .ok (.iconst 0, 1) := by decide +kernel
theorem dX3_placeIn_1 : decode cX3_placeIn 1 = .ok (.istore_n 3, 1) := by decide +kernel
theorem dX3_placeIn_2 : decode cX3_placeIn 2 = .ok (.iload_n 3, 1) := by decide +kernel
theorem dX3_placeIn_3 : decode cX3_placeIn 3 = .ok (.aload_n 0, 1) := by decide +kernel
theorem dX3_placeIn_4 : decode cX3_placeIn 4 = .ok (.getfield 19, 3) := by decide +kernel
theorem dX3_placeIn_7 : decode cX3_placeIn 7 = .ok (.iload_n 1, 1) := by decide +kernel
theorem dX3_placeIn_8 : decode cX3_placeIn 8 = .ok (.iaload, 1) := by decide +kernel
theorem dX3_placeIn_9 : decode cX3_placeIn 9 = .ok (.if_icmp .ge 25, 3) := by decide +kernel
theorem dX3_placeIn_12 : decode cX3_placeIn 12 = .ok (.aload_n 0, 1) := by decide +kernel
theorem dX3_placeIn_13 : decode cX3_placeIn 13 = .ok (.getfield 22, 3) := by decide +kernel
theorem dX3_placeIn_16 : decode cX3_placeIn 16 = .ok (.bipush 20, 2) := by decide +kernel
theorem dX3_placeIn_18 : decode cX3_placeIn 18 = .ok (.iload_n 1, 1) := by decide +kernel
theorem dX3_placeIn_19 : decode cX3_placeIn 19 = .ok (.imul, 1) := by decide +kernel
theorem dX3_placeIn_20 : decode cX3_placeIn 20 = .ok (.iload_n 3, 1) := by decide +kernel
theorem dX3_placeIn_21 : decode cX3_placeIn 21 = .ok (.iadd, 1) := by decide +kernel
theorem dX3_placeIn_22 : decode cX3_placeIn 22 = .ok (.iaload, 1) := by decide +kernel
theorem dX3_placeIn_23 : decode cX3_placeIn 23 = .ok (.iload_n 2, 1) := by decide +kernel
theorem dX3_placeIn_24 : decode cX3_placeIn 24 = .ok (.if_icmp .eq 10, 3) := by decide +kernel
theorem dX3_placeIn_27 : decode cX3_placeIn 27 = .ok (.iload_n 3, 1) := by decide +kernel
theorem dX3_placeIn_28 : decode cX3_placeIn 28 = .ok (.iconst 1, 1) := by decide +kernel
theorem dX3_placeIn_29 : decode cX3_placeIn 29 = .ok (.iadd, 1) := by decide +kernel
theorem dX3_placeIn_30 : decode cX3_placeIn 30 = .ok (.istore_n 3, 1) := by decide +kernel
theorem dX3_placeIn_31 : decode cX3_placeIn 31 = .ok (.goto (-29), 3) := by decide +kernel
theorem dX3_placeIn_34 : decode cX3_placeIn 34 = .ok (.iload_n 3, 1) := by decide +kernel
theorem dX3_placeIn_35 : decode cX3_placeIn 35 = .ok (.aload_n 0, 1) := by decide +kernel
theorem dX3_placeIn_36 : decode cX3_placeIn 36 = .ok (.getfield 19, 3) := by decide +kernel
theorem dX3_placeIn_39 : decode cX3_placeIn 39 = .ok (.iload_n 1, 1) := by decide +kernel
theorem dX3_placeIn_40 : decode cX3_placeIn 40 = .ok (.iaload, 1) := by decide +kernel
theorem dX3_placeIn_41 : decode cX3_placeIn 41 = .ok (.if_icmp .ge 7, 3) := by decide +kernel
theorem dX3_placeIn_44 : decode cX3_placeIn 44 = .ok (.iload_n 3, 1) := by decide +kernel
theorem dX3_placeIn_45 : decode cX3_placeIn 45 = .ok (.goto 4, 3) := by decide +kernel
theorem dX3_placeIn_48 : decode cX3_placeIn 48 = .ok (.iconst (-1), 1) := by decide +kernel
theorem dX3_placeIn_49 : decode cX3_placeIn 49 = .ok (.ireturn, 1) := by decide +kernel
set_option maxRecDepth 20000 in
theorem ggX3_isIn_X3_placeIn : GoodIn wsX3_isIn wsX3_placeIn := goodIn_r _ [5, 6, 7, 8, 9, 10, 11, 12, 13, 14, 15, 16, 17, 18] (by decide +kernel) (by decide +kernel)
set_option maxRecDepth 20000 in
theorem gX3_isIn_X3_placeIn : GoodIn wsX3_isIn (wsV RX3 42 RX3 yX3_placeIn wsX3_placeIn) := goodIn_app (goodIn_of _ (by decide +kernel)) ggX3_isIn_X3_placeIn
theorem dX3_isIn_0 : decode cX3_isIn 0 = .ok (.aload_n 0, 1) := by decide +kernel
theorem dX3_isIn_1 : decode cX3_isIn 1 = .ok (.iload_n 1, 1) := by decide +kernel
theorem dX3_isIn_2 : decode cX3_isIn 2 = .ok (.iload_n 2, 1) := by decide +kernel
theorem dX3_isIn_3 : decode cX3_isIn 3 = .ok (.invokevirtual 42, 3) := by decide +kernel
theorem dX3_isIn_6 : decode cX3_isIn 6 = .ok (.ifCond .lt 7, 3) := by decide +kernel
theorem dX3_isIn_9 : decode cX3_isIn 9 = .ok (.iconst 1, 1) := by decide +kernel
theorem dX3_isIn_10 : decode cX3_isIn 10 = .ok (.goto 4, 3) := by decide +kernel
theorem dX3_isIn_13 : decode cX3_isIn 13 = .ok (.iconst 0, 1) := by decide +kernel
theorem dX3_isIn_14 : decode cX3_isIn 14 = .ok (.ireturn, 1) := by decide +kernel
set_option maxRecDepth 20000 in
theorem ggX3_takeOut_X3_placeIn : GoodIn wsX3_takeOut wsX3_placeIn := goodIn_r _ [7, 1, 2, 8, 9, 10, 11, 12, 13, 14, 15, 16, 17, 18] (by decide +kernel) (by decide +kernel)
set_option maxRecDepth 20000 in
theorem gX3_takeOut_X3_placeIn : GoodIn wsX3_takeOut (wsV RX3 42 RX3 yX3_placeIn wsX3_placeIn) := goodIn_app (goodIn_of _ (by decide +kernel)) ggX3_takeOut_X3_placeIn
theorem dX3_takeOut_0 : decode cX3_takeOut 0 = .ok (.aload_n 0, 1) := by decide +kernel
theorem dX3_takeOut_1 : decode cX3_takeOut 1 = .ok (.iload_n 1, 1) := by decide +kernel
theorem dX3_takeOut_2 : decode cX3_takeOut 2 = .ok (.iload_n 2, 1) := by decide +kernel
theorem dX3_takeOut_3 : decode cX3_takeOut 3 = .ok (.invokevirtual 42, 3) := by decide +kernel
theorem dX3_takeOut_6 : decode cX3_takeOut 6 = .ok (.istore_n 3, 1) := by decide +kernel
theorem dX3_takeOut_7 : decode cX3_takeOut 7 = .ok (.aload_n 0, 1) := by decide +kernel
theorem dX3_takeOut_8 : decode cX3_takeOut 8 = .ok (.getfield 19, 3) := by decide +kernel
theorem dX3_takeOut_11 : decode cX3_takeOut 11 = .ok (.iload_n 1, 1) := by decide +kernel
theorem dX3_takeOut_12 : decode cX3_takeOut 12 = .ok (.aload_n 0, 1) := by decide +kernel
theorem dX3_takeOut_13 : decode cX3_takeOut 13 = .ok (.getfield 19, 3) := by decide +kernel
theorem dX3_takeOut_16 : decode cX3_takeOut 16 = .ok (.iload_n 1, 1) := by decide +kernel
theorem dX3_takeOut_17 : decode cX3_takeOut 17 = .ok (.iaload, 1) := by decide +kernel
theorem dX3_takeOut_18 : decode cX3_takeOut 18 = .ok (.iconst 1, 1) := by decide +kernel
theorem dX3_takeOut_19 : decode cX3_takeOut 19 = .ok (.isub, 1) := by decide +kernel
theorem dX3_takeOut_20 : decode cX3_takeOut 20 = .ok (.iastore, 1) := by decide +kernel
theorem dX3_takeOut_21 : decode cX3_takeOut 21 = .ok (.iload_n 3, 1) := by decide +kernel
theorem dX3_takeOut_22 : decode cX3_takeOut 22 = .ok (.istore 4, 2) := by decide +kernel
theorem dX3_takeOut_24 : decode cX3_takeOut 24 = .ok (.iload 4, 2) := by decide +kernel
theorem dX3_takeOut_26 : decode cX3_takeOut 26 = .ok (.aload_n 0, 1) := by decide +kernel
theorem dX3_takeOut_27 : decode cX3_takeOut 27 = .ok (.getfield 19, 3) := by decide +kernel
theorem dX3_takeOut_30 : decode cX3_takeOut 30 = .ok (.iload_n 1, 1) := by decide +kernel
theorem dX3_takeOut_31 : decode cX3_takeOut 31 = .ok (.iaload, 1) := by decide +kernel
theorem dX3_takeOut_32 : decode cX3_takeOut 32 = .ok (.if_icmp .ge 35, 3) := by decide +kernel
theorem dX3_takeOut_35 : decode cX3_takeOut 35 = .ok (.aload_n 0, 1) := by decide +kernel
theorem dX3_takeOut_36 : decode cX3_takeOut 36 = .ok (.getfield 22, 3) := by decide +kernel
theorem dX3_takeOut_39 : decode cX3_takeOut 39 = .ok (.bipush 20, 2) := by decide +kernel
theorem dX3_takeOut_41 : decode cX3_takeOut 41 = .ok (.iload_n 1, 1) := by decide +kernel
theorem dX3_takeOut_42 : decode cX3_takeOut 42 = .ok (.imul, 1) := by decide +kernel
theorem dX3_takeOut_43 : decode cX3_takeOut 43 = .ok (.iload 4, 2) := by decide +kernel
theorem dX3_takeOut_45 : decode cX3_takeOut 45 = .ok (.iadd, 1) := by decide +kernel
theorem dX3_takeOut_46 : decode cX3_takeOut 46 = .ok (.aload_n 0, 1) := by decide +kernel
theorem dX3_takeOut_47 : decode cX3_takeOut 47 = .ok (.getfield 22, 3) := by decide +kernel
theorem dX3_takeOut_50 : decode cX3_takeOut 50 = .ok (.bipush 20, 2) := by decide +kernel
theorem dX3_takeOut_52 : decode cX3_takeOut 52 = .ok (.iload_n 1, 1) := by decide +kernel
theorem dX3_takeOut_53 : decode cX3_takeOut 53 = .ok (.imul, 1) := by decide +kernel
theorem dX3_takeOut_54 : decode cX3_takeOut 54 = .ok (.iload 4, 2) := by decide +kernel
theorem dX3_takeOut_56 : decode cX3_takeOut 56 = .ok (.iadd, 1) := by decide +kernel
theorem dX3_takeOut_57 : decode cX3_takeOut 57 = .ok (.iconst 1, 1) := by decide +kernel
theorem dX3_takeOut_58 : decode cX3_takeOut 58 = .ok (.iadd, 1) := by decide +kernel
theorem dX3_takeOut_59 : decode cX3_takeOut 59 = .ok (.iaload, 1) := by decide +kernel
theorem dX3_takeOut_60 : decode cX3_takeOut 60 = .ok (.iastore, 1) := by decide +kernel
theorem dX3_takeOut_61 : decode cX3_takeOut 61 = .ok (.iinc 4 1, 3) := by decide +kernel
theorem dX3_takeOut_64 : decode cX3_takeOut 64 = .ok (.goto (-40), 3) := by decide +kernel
theorem dX3_takeOut_67 : decode cX3_takeOut 67 = .ok (.return_, 1) := by decide +kernel
theorem dX3_toHead_0 : decode cX3_toHead 0 = .ok (.aload_n 0, 1) := by decide +kernel
theorem dX3_toHead_1 : decode cX3_toHead 1 = .ok (.getfield 19, 3) := by decide +kernel
theorem dX3_toHead_4 : decode cX3_toHead 4 = .ok (.iload_n 1, 1) := by decide +kernel
theorem dX3_toHead_5 : decode cX3_toHead 5 = .ok (.iaload, 1) := by decide +kernel
theorem dX3_toHead_6 : decode cX3_toHead 6 = .ok (.istore_n 3, 1) := by decide +kernel
theorem dX3_toHead_7 : decode cX3_toHead 7 = .ok (.iload_n 3, 1) := by decide +kernel
theorem dX3_toHead_8 : decode cX3_toHead 8 = .ok (.ifCond .le 33, 3) := by decide +kernel
theorem dX3_toHead_11 : decode cX3_toHead 11 = .ok (.aload_n 0, 1) := by decide +kernel
theorem dX3_toHead_12 : decode cX3_toHead 12 = .ok (.getfield 22, 3) := by decide +kernel
theorem dX3_toHead_15 : decode cX3_toHead 15 = .ok (.bipush 20, 2) := by decide +kernel
theorem dX3_toHead_17 : decode cX3_toHead 17 = .ok (.iload_n 1, 1) := by decide +kernel
theorem dX3_toHead_18 : decode cX3_toHead 18 = .ok (.imul, 1) := by decide +kernel
theorem dX3_toHead_19 : decode cX3_toHead 19 = .ok (.iload_n 3, 1) := by decide +kernel
theorem dX3_toHead_20 : decode cX3_toHead 20 = .ok (.iadd, 1) := by decide +kernel
theorem dX3_toHead_21 : decode cX3_toHead 21 = .ok (.aload_n 0, 1) := by decide +kernel
theorem dX3_toHead_22 : decode cX3_toHead 22 = .ok (.getfield 22, 3) := by decide +kernel
theorem dX3_toHead_25 : decode cX3_toHead 25 = .ok (.bipush 20, 2) := by decide +kernel
theorem dX3_toHead_27 : decode cX3_toHead 27 = .ok (.iload_n 1, 1) := by decide +kernel
theorem dX3_toHead_28 : decode cX3_toHead 28 = .ok (.imul, 1) := by decide +kernel
theorem dX3_toHead_29 : decode cX3_toHead 29 = .ok (.iload_n 3, 1) := by decide +kernel
theorem dX3_toHead_30 : decode cX3_toHead 30 = .ok (.iadd, 1) := by decide +kernel
theorem dX3_toHead_31 : decode cX3_toHead 31 = .ok (.iconst 1, 1) := by decide +kernel
theorem dX3_toHead_32 : decode cX3_toHead 32 = .ok (.isub, 1) := by decide +kernel
theorem dX3_toHead_33 : decode cX3_toHead 33 = .ok (.iaload, 1) := by decide +kernel
theorem dX3_toHead_34 : decode cX3_toHead 34 = .ok (.iastore, 1) := by decide +kernel
theorem dX3_toHead_35 : decode cX3_toHead 35 = .ok (.iinc 3 (-1), 3) := by decide +kernel
theorem dX3_toHead_38 : decode cX3_toHead 38 = .ok (.goto (-31), 3) := by decide +kernel
theorem dX3_toHead_41 : decode cX3_toHead 41 = .ok (.aload_n 0, 1) := by decide +kernel
theorem dX3_toHead_42 : decode cX3_toHead 42 = .ok (.getfield 22, 3) := by decide +kernel
theorem dX3_toHead_45 : decode cX3_toHead 45 = .ok (.bipush 20, 2) := by decide +kernel
theorem dX3_toHead_47 : decode cX3_toHead 47 = .ok (.iload_n 1, 1) := by decide +kernel
theorem dX3_toHead_48 : decode cX3_toHead 48 = .ok (.imul, 1) := by decide +kernel
theorem dX3_toHead_49 : decode cX3_toHead 49 = .ok (.iload_n 2, 1) := by decide +kernel
theorem dX3_toHead_50 : decode cX3_toHead 50 = .ok (.iastore, 1) := by decide +kernel
theorem dX3_toHead_51 : decode cX3_toHead 51 = .ok (.aload_n 0, 1) := by decide +kernel
theorem dX3_toHead_52 : decode cX3_toHead 52 = .ok (.getfield 19, 3) := by decide +kernel
theorem dX3_toHead_55 : decode cX3_toHead 55 = .ok (.iload_n 1, 1) := by decide +kernel
theorem dX3_toHead_56 : decode cX3_toHead 56 = .ok (.aload_n 0, 1) := by decide +kernel
theorem dX3_toHead_57 : decode cX3_toHead 57 = .ok (.getfield 19, 3) := by decide +kernel
theorem dX3_toHead_60 : decode cX3_toHead 60 = .ok (.iload_n 1, 1) := by decide +kernel
theorem dX3_toHead_61 : decode cX3_toHead 61 = .ok (.iaload, 1) := by decide +kernel
theorem dX3_toHead_62 : decode cX3_toHead 62 = .ok (.iconst 1, 1) := by decide +kernel
theorem dX3_toHead_63 : decode cX3_toHead 63 = .ok (.iadd, 1) := by decide +kernel
theorem dX3_toHead_64 : decode cX3_toHead 64 = .ok (.iastore, 1) := by decide +kernel
theorem dX3_toHead_65 : decode cX3_toHead 65 = .ok (.return_, 1) := by decide +kernel
theorem dX3_toTail_0 : decode cX3_toTail 0 = .ok (.aload_n 0, 1) := by decide +kernel
theorem dX3_toTail_1 : decode cX3_toTail 1 = .ok (.getfield 22, 3) := by decide +kernel
theorem dX3_toTail_4 : decode cX3_toTail 4 = .ok (.bipush 20, 2) := by decide +kernel
theorem dX3_toTail_6 : decode cX3_toTail 6 = .ok (.iload_n 1, 1) := by decide +kernel
theorem dX3_toTail_7 : decode cX3_toTail 7 = .ok (.imul, 1) := by decide +kernel
theorem dX3_toTail_8 : decode cX3_toTail 8 = .ok (.aload_n 0, 1) := by decide +kernel
theorem dX3_toTail_9 : decode cX3_toTail 9 = .ok (.getfield 19, 3) := by decide +kernel
theorem dX3_toTail_12 : decode cX3_toTail 12 = .ok (.iload_n 1, 1) := by decide +kernel
theorem dX3_toTail_13 : decode cX3_toTail 13 = .ok (.iaload, 1) := by decide +kernel
theorem dX3_toTail_14 : decode cX3_toTail 14 = .ok (.iadd, 1) := by decide +kernel
theorem dX3_toTail_15 : decode cX3_toTail 15 = .ok (.iload_n 2, 1) := by decide +kernel
theorem dX3_toTail_16 : decode cX3_toTail 16 = .ok (.iastore, 1) := by decide +kernel
theorem dX3_toTail_17 : decode cX3_toTail 17 = .ok (.aload_n 0, 1) := by decide +kernel
theorem dX3_toTail_18 : decode cX3_toTail 18 = .ok (.getfield 19, 3) := by decide +kernel
theorem dX3_toTail_21 : decode cX3_toTail 21 = .ok (.iload_n 1, 1) := by decide +kernel
theorem dX3_toTail_22 : decode cX3_toTail 22 = .ok (.aload_n 0, 1) := by decide +kernel
theorem dX3_toTail_23 : decode cX3_toTail 23 = .ok (.getfield 19, 3) := by decide +kernel
theorem dX3_toTail_26 : decode cX3_toTail 26 = .ok (.iload_n 1, 1) := by decide +kernel
theorem dX3_toTail_27 : decode cX3_toTail 27 = .ok (.iaload, 1) := by decide +kernel
theorem dX3_toTail_28 : decode cX3_toTail 28 = .ok (.iconst 1, 1) := by decide +kernel
theorem dX3_toTail_29 : decode cX3_toTail 29 = .ok (.iadd, 1) := by decide +kernel
theorem dX3_toTail_30 : decode cX3_toTail 30 = .ok (.iastore, 1) := by decide +kernel
theorem dX3_toTail_31 : decode cX3_toTail 31 = .ok (.return_, 1) := by decide +kernel
theorem dX3_cutTail_0 : decode cX3_cutTail 0 = .ok (.aload_n 0, 1) := by decide +kernel
theorem dX3_cutTail_1 : decode cX3_cutTail 1 = .ok (.getfield 19, 3) := by decide +kernel
theorem dX3_cutTail_4 : decode cX3_cutTail 4 = .ok (.iload_n 1, 1) := by decide +kernel
theorem dX3_cutTail_5 : decode cX3_cutTail 5 = .ok (.aload_n 0, 1) := by decide +kernel
theorem dX3_cutTail_6 : decode cX3_cutTail 6 = .ok (.getfield 19, 3) := by decide +kernel
theorem dX3_cutTail_9 : decode cX3_cutTail 9 = .ok (.iload_n 1, 1) := by decide +kernel
theorem dX3_cutTail_10 : decode cX3_cutTail 10 = .ok (.iaload, 1) := by decide +kernel
theorem dX3_cutTail_11 : decode cX3_cutTail 11 = .ok (.iconst 1, 1) := by decide +kernel
theorem dX3_cutTail_12 : decode cX3_cutTail 12 = .ok (.isub, 1) := by decide +kernel
theorem dX3_cutTail_13 : decode cX3_cutTail 13 = .ok (.iastore, 1) := by decide +kernel
theorem dX3_cutTail_14 : decode cX3_cutTail 14 = .ok (.aload_n 0, 1) := by decide +kernel
theorem dX3_cutTail_15 : decode cX3_cutTail 15 = .ok (.getfield 22, 3) := by decide +kernel
theorem dX3_cutTail_18 : decode cX3_cutTail 18 = .ok (.bipush 20, 2) := by decide +kernel
theorem dX3_cutTail_20 : decode cX3_cutTail 20 = .ok (.iload_n 1, 1) := by decide +kernel
theorem dX3_cutTail_21 : decode cX3_cutTail 21 = .ok (.imul, 1) := by decide +kernel
theorem dX3_cutTail_22 : decode cX3_cutTail 22 = .ok (.aload_n 0, 1) := by decide +kernel
theorem dX3_cutTail_23 : decode cX3_cutTail 23 = .ok (.getfield 19, 3) := by decide +kernel
theorem dX3_cutTail_26 : decode cX3_cutTail 26 = .ok (.iload_n 1, 1) := by decide +kernel
theorem dX3_cutTail_27 : decode cX3_cutTail 27 = .ok (.iaload, 1) := by decide +kernel
theorem dX3_cutTail_28 : decode cX3_cutTail 28 = .ok (.iadd, 1) := by decide +kernel
theorem dX3_cutTail_29 : decode cX3_cutTail 29 = .ok (.iaload, 1) := by decide +kernel
theorem dX3_cutTail_30 : decode cX3_cutTail 30 = .ok (.ireturn, 1) := by decide +kernel
set_option maxRecDepth 20000 in
theorem ggX3_move_X3_takeOut : GoodIn wsX3_move wsX3_takeOut := goodIn_r _ [5, 6, 7, 8, 9, 10, 4, 11, 16, 17, 18, 19, 20, 21, 22, 23, 24, 25, 26] (by decide +kernel) (by decide +kernel)
set_option maxRecDepth 20000 in
theorem gX3_move_X3_takeOut : GoodIn wsX3_move (wsV RX3 46 RX3 yX3_takeOut wsX3_takeOut) := goodIn_app (goodIn_of _ (by decide +kernel)) ggX3_move_X3_takeOut
set_option maxRecDepth 20000 in
theorem ggX3_move_X3_toHead : GoodIn wsX3_move wsX3_toHead := goodIn_r _ [15, 6, 7, 16, 17, 18, 19, 20, 21, 22, 23, 24, 25, 26] (by decide +kernel) (by decide +kernel)
set_option maxRecDepth 20000 in
theorem gX3_move_X3_toHead : GoodIn wsX3_move (wsV RX3 50 RX3 yX3_toHead wsX3_toHead) := goodIn_app (goodIn_of _ (by decide +kernel)) ggX3_move_X3_toHead
theorem dX3_move_0 : decode cX3_move 0 = .ok (.aload_n 0, 1) := by decide +kernel
theorem dX3_move_1 : decode cX3_move 1 = .ok (.iload_n 1, 1) := by decide +kernel
theorem dX3_move_2 : decode cX3_move 2 = .ok (.iload_n 3, 1) := by decide +kernel
theorem dX3_move_3 : decode cX3_move 3 = .ok (.invokevirtual 46, 3) := by decide +kernel
theorem dX3_move_6 : decode cX3_move 6 = .ok (.aload_n 0, 1) := by decide +kernel
theorem dX3_move_7 : decode cX3_move 7 = .ok (.iload_n 2, 1) := by decide +kernel
theorem dX3_move_8 : decode cX3_move 8 = .ok (.iload_n 3, 1) := by decide +kernel
theorem dX3_move_9 : decode cX3_move 9 = .ok (.invokevirtual 50, 3) := by decide +kernel
theorem dX3_move_12 : decode cX3_move 12 = .ok (.return_, 1) := by decide +kernel
set_option maxRecDepth 20000 in
theorem ggX3_recent_X3_isIn : GoodIn wsX3_recent wsX3_isIn := goodIn_r _ [8, 9, 10, 11, 7, 12, 1, 13, 30, 31, 32, 33, 34, 35, 36, 37, 38, 39, 40] (by decide +kernel) (by decide +kernel)
set_option maxRecDepth 20000 in
theorem gX3_recent_X3_isIn : GoodIn wsX3_recent (wsV RX3 53 RX3 yX3_isIn wsX3_isIn) := goodIn_app (goodIn_of _ (by decide +kernel)) ggX3_recent_X3_isIn
set_option maxRecDepth 20000 in
theorem ggX3_recent_X3_move : GoodIn wsX3_recent wsX3_move := goodIn_r _ [17, 18, 19, 20, 7, 21, 1, 13, 9, 10, 11, 12, 22, 23, 24, 25, 30, 31, 32, 33, 34, 35, 36, 37, 38, 39, 40] (by decide +kernel) (by decide +kernel)
set_option maxRecDepth 20000 in
theorem gX3_recent_X3_move : GoodIn wsX3_recent (wsV RX3 57 RX3 yX3_move wsX3_move) := goodIn_app (goodIn_of _ (by decide +kernel)) ggX3_recent_X3_move
set_option maxRecDepth 20000 in
theorem ggX3_recent_X3_cutTail : GoodIn wsX3_recent wsX3_cutTail := goodIn_r _ [29, 1, 13, 30, 31, 32, 33, 34, 35, 36, 37, 38, 39, 40] (by decide +kernel) (by decide +kernel)
set_option maxRecDepth 20000 in
theorem gX3_recent_X3_cutTail : GoodIn wsX3_recent (wsV RX3 61 RX3 yX3_cutTail wsX3_cutTail) := goodIn_app (goodIn_of _ (by decide +kernel)) ggX3_recent_X3_cutTail
set_option maxRecDepth 20000 in
theorem ggX3_recent_X3_toHead : GoodIn wsX3_recent wsX3_toHead := goodIn_r _ [25, 1, 13, 30, 31, 32, 33, 34, 35, 36, 37, 38, 39, 40] (by decide +kernel) (by decide +kernel)
set_option maxRecDepth 20000 in
theorem gX3_recent_X3_toHead : GoodIn wsX3_recent (wsV RX3 50 RX3 yX3_toHead wsX3_toHead) := goodIn_app (goodIn_of _ (by decide +kernel)) ggX3_recent_X3_toHead
theorem dX3_recent_0 : decode cX3_recent 0 = .ok (.iconst 4, 1) := by decide +kernel
theorem dX3_recent_1 : decode cX3_recent 1 = .ok (.iload_n 1, 1) := by decide +kernel
theorem dX3_recent_2 : decode cX3_recent 2 = .ok (.imul, 1) := by decide +kernel
theorem dX3_recent_3 : decode cX3_recent 3 = .ok (.istore_n 3, 1) := by decide +kernel
theorem dX3_recent_4 : decode cX3_recent 4 = .ok (.aload_n 0, 1) := by decide +kernel
theorem dX3_recent_5 : decode cX3_recent 5 = .ok (.iload_n 3, 1) := by decide +kernel
theorem dX3_recent_6 : decode cX3_recent 6 = .ok (.iload_n 2, 1) := by decide +kernel
theorem dX3_recent_7 : decode cX3_recent 7 = .ok (.invokevirtual 53, 3) := by decide +kernel
theorem dX3_recent_10 : decode cX3_recent 10 = .ok (.ifCond .eq 12, 3) := by decide +kernel
theorem dX3_recent_13 : decode cX3_recent 13 = .ok (.aload_n 0, 1) := by decide +kernel
theorem dX3_recent_14 : decode cX3_recent 14 = .ok (.iload_n 3, 1) := by decide +kernel
theorem dX3_recent_15 : decode cX3_recent 15 = .ok (.iload_n 3, 1) := by decide +kernel
theorem dX3_recent_16 : decode cX3_recent 16 = .ok (.iload_n 2, 1) := by decide +kernel
theorem dX3_recent_17 : decode cX3_recent 17 = .ok (.invokevirtual 57, 3) := by decide +kernel
theorem dX3_recent_20 : decode cX3_recent 20 = .ok (.iconst 1, 1) := by decide +kernel
theorem dX3_recent_21 : decode cX3_recent 21 = .ok (.ireturn, 1) := by decide +kernel
theorem dX3_recent_22 : decode cX3_recent 22 = .ok (.aload_n 0, 1) := by decide +kernel
theorem dX3_recent_23 : decode cX3_recent 23 = .ok (.getfield 19, 3) := by decide +kernel
theorem dX3_recent_26 : decode cX3_recent 26 = .ok (.iload_n 3, 1) := by decide +kernel
theorem dX3_recent_27 : decode cX3_recent 27 = .ok (.iaload, 1) := by decide +kernel
theorem dX3_recent_28 : decode cX3_recent 28 = .ok (.aload_n 0, 1) := by decide +kernel
theorem dX3_recent_29 : decode cX3_recent 29 = .ok (.getfield 13, 3) := by decide +kernel
theorem dX3_recent_32 : decode cX3_recent 32 = .ok (.iload_n 1, 1) := by decide +kernel
theorem dX3_recent_33 : decode cX3_recent 33 = .ok (.iaload, 1) := by decide +kernel
theorem dX3_recent_34 : decode cX3_recent 34 = .ok (.if_icmp .ne 12, 3) := by decide +kernel
theorem dX3_recent_37 : decode cX3_recent 37 = .ok (.aload_n 0, 1) := by decide +kernel
theorem dX3_recent_38 : decode cX3_recent 38 = .ok (.aload_n 0, 1) := by decide +kernel
theorem dX3_recent_39 : decode cX3_recent 39 = .ok (.iload_n 3, 1) := by decide +kernel
theorem dX3_recent_40 : decode cX3_recent 40 = .ok (.invokevirtual 61, 3) := by decide +kernel
theorem dX3_recent_43 : decode cX3_recent 43 = .ok (.putfield 65, 3) := by decide +kernel
theorem dX3_recent_46 : decode cX3_recent 46 = .ok (.aload_n 0, 1) := by decide +kernel
theorem dX3_recent_47 : decode cX3_recent 47 = .ok (.iload_n 3, 1) := by decide +kernel
theorem dX3_recent_48 : decode cX3_recent 48 = .ok (.iload_n 2, 1) := by decide +kernel
theorem dX3_recent_49 : decode cX3_recent 49 = .ok (.invokevirtual 50, 3) := by decide +kernel
theorem dX3_recent_52 : decode cX3_recent 52 = .ok (.iconst 0, 1) := by decide +kernel
theorem dX3_recent_53 : decode cX3_recent 53 = .ok (.ireturn, 1) := by decide +kernel
set_option maxRecDepth 20000 in
theorem ggX3_clock_X3_isIn : GoodIn wsX3_clock wsX3_isIn := goodIn_r _ [10, 11, 12, 13, 9, 14, 2, 4, 23, 24, 25, 26, 27, 28, 29, 30, 31, 32, 33] (by decide +kernel) (by decide +kernel)
set_option maxRecDepth 20000 in
theorem gX3_clock_X3_isIn : GoodIn wsX3_clock (wsV RX3 53 RX3 yX3_isIn wsX3_isIn) := goodIn_app (goodIn_of _ (by decide +kernel)) ggX3_clock_X3_isIn
set_option maxRecDepth 20000 in
theorem ggX3_clock_X3_takeOut : GoodIn wsX3_clock wsX3_takeOut := goodIn_r _ [18, 2, 4, 11, 12, 13, 9, 14, 23, 24, 25, 26, 27, 28, 29, 30, 31, 32, 33] (by decide +kernel) (by decide +kernel)
set_option maxRecDepth 20000 in
theorem gX3_clock_X3_takeOut : GoodIn wsX3_clock (wsV RX3 46 RX3 yX3_takeOut wsX3_takeOut) := goodIn_app (goodIn_of _ (by decide +kernel)) ggX3_clock_X3_takeOut
set_option maxRecDepth 20000 in
theorem ggX3_clock_X3_toTail : GoodIn wsX3_clock wsX3_toTail := goodIn_r _ [22, 4, 2, 23, 24, 25, 26, 27, 28, 29, 30, 31, 32, 33] (by decide +kernel) (by decide +kernel)
set_option maxRecDepth 20000 in
theorem gX3_clock_X3_toTail : GoodIn wsX3_clock (wsV RX3 68 RX3 yX3_toTail wsX3_toTail) := goodIn_app (goodIn_of _ (by decide +kernel)) ggX3_clock_X3_toTail
theorem dX3_clock_0 : decode cX3_clock 0 = .ok (.iconst 4, 1) := by decide +kernel
theorem dX3_clock_1 : decode cX3_clock 1 = .ok (.iload_n 1, 1) := by decide +kernel
theorem dX3_clock_2 : decode cX3_clock 2 = .ok (.imul, 1) := by decide +kernel
theorem dX3_clock_3 : decode cX3_clock 3 = .ok (.istore_n 3, 1) := by decide +kernel
theorem dX3_clock_4 : decode cX3_clock 4 = .ok (.aload_n 0, 1) := by decide +kernel
theorem dX3_clock_5 : decode cX3_clock 5 = .ok (.iload_n 3, 1) := by decide +kernel
theorem dX3_clock_6 : decode cX3_clock 6 = .ok (.iload_n 2, 1) := by decide +kernel
theorem dX3_clock_7 : decode cX3_clock 7 = .ok (.invokevirtual 53, 3) := by decide +kernel
theorem dX3_clock_10 : decode cX3_clock 10 = .ok (.ifCond .eq 17, 3) := by decide +kernel
theorem dX3_clock_13 : decode cX3_clock 13 = .ok (.aload_n 0, 1) := by decide +kernel
theorem dX3_clock_14 : decode cX3_clock 14 = .ok (.getfield 25, 3) := by decide +kernel
theorem dX3_clock_17 : decode cX3_clock 17 = .ok (.bipush 64, 2) := by decide +kernel
theorem dX3_clock_19 : decode cX3_clock 19 = .ok (.iload_n 1, 1) := by decide +kernel
theorem dX3_clock_20 : decode cX3_clock 20 = .ok (.imul, 1) := by decide +kernel
theorem dX3_clock_21 : decode cX3_clock 21 = .ok (.iload_n 2, 1) := by decide +kernel
theorem dX3_clock_22 : decode cX3_clock 22 = .ok (.iadd, 1) := by decide +kernel
theorem dX3_clock_23 : decode cX3_clock 23 = .ok (.iconst 1, 1) := by decide +kernel
theorem dX3_clock_24 : decode cX3_clock 24 = .ok (.bastore, 1) := by decide +kernel
theorem dX3_clock_25 : decode cX3_clock 25 = .ok (.iconst 1, 1) := by decide +kernel
theorem dX3_clock_26 : decode cX3_clock 26 = .ok (.ireturn, 1) := by decide +kernel
theorem dX3_clock_27 : decode cX3_clock 27 = .ok (.aload_n 0, 1) := by decide +kernel
theorem dX3_clock_28 : decode cX3_clock 28 = .ok (.getfield 19, 3) := by decide +kernel
theorem dX3_clock_31 : decode cX3_clock 31 = .ok (.iload_n 3, 1) := by decide +kernel
theorem dX3_clock_32 : decode cX3_clock 32 = .ok (.iaload, 1) := by decide +kernel
theorem dX3_clock_33 : decode cX3_clock 33 = .ok (.aload_n 0, 1) := by decide +kernel
theorem dX3_clock_34 : decode cX3_clock 34 = .ok (.getfield 13, 3) := by decide +kernel
theorem dX3_clock_37 : decode cX3_clock 37 = .ok (.iload_n 1, 1) := by decide +kernel
theorem dX3_clock_38 : decode cX3_clock 38 = .ok (.iaload, 1) := by decide +kernel
theorem dX3_clock_39 : decode cX3_clock 39 = .ok (.if_icmp .ne 88, 3) := by decide +kernel
theorem dX3_clock_42 : decode cX3_clock 42 = .ok (.aload_n 0, 1) := by decide +kernel
theorem dX3_clock_43 : decode cX3_clock 43 = .ok (.getfield 25, 3) := by decide +kernel
theorem dX3_clock_46 : decode cX3_clock 46 = .ok (.bipush 64, 2) := by decide +kernel
theorem dX3_clock_48 : decode cX3_clock 48 = .ok (.iload_n 1, 1) := by decide +kernel
theorem dX3_clock_49 : decode cX3_clock 49 = .ok (.imul, 1) := by decide +kernel
theorem dX3_clock_50 : decode cX3_clock 50 = .ok (.aload_n 0, 1) := by decide +kernel
theorem dX3_clock_51 : decode cX3_clock 51 = .ok (.getfield 22, 3) := by decide +kernel
theorem dX3_clock_54 : decode cX3_clock 54 = .ok (.bipush 20, 2) := by decide +kernel
theorem dX3_clock_56 : decode cX3_clock 56 = .ok (.iload_n 3, 1) := by decide +kernel
theorem dX3_clock_57 : decode cX3_clock 57 = .ok (.imul, 1) := by decide +kernel
theorem dX3_clock_58 : decode cX3_clock 58 = .ok (.iaload, 1) := by decide +kernel
theorem dX3_clock_59 : decode cX3_clock 59 = .ok (.iadd, 1) := by decide +kernel
theorem dX3_clock_60 : decode cX3_clock 60 = .ok (.baload, 1) := by decide +kernel
theorem dX3_clock_61 : decode cX3_clock 61 = .ok (.ifCond .eq 44, 3) := by decide +kernel
theorem dX3_clock_64 : decode cX3_clock 64 = .ok (.aload_n 0, 1) := by decide +kernel
theorem dX3_clock_65 : decode cX3_clock 65 = .ok (.getfield 22, 3) := by decide +kernel
theorem dX3_clock_68 : decode cX3_clock 68 = .ok (.bipush 20, 2) := by decide +kernel
theorem dX3_clock_70 : decode cX3_clock 70 = .ok (.iload_n 3, 1) := by decide +kernel
theorem dX3_clock_71 : decode cX3_clock 71 = .ok (.imul, 1) := by decide +kernel
theorem dX3_clock_72 : decode cX3_clock 72 = .ok (.iaload, 1) := by decide +kernel
theorem dX3_clock_73 : decode cX3_clock 73 = .ok (.istore 4, 2) := by decide +kernel
theorem dX3_clock_75 : decode cX3_clock 75 = .ok (.aload_n 0, 1) := by decide +kernel
theorem dX3_clock_76 : decode cX3_clock 76 = .ok (.getfield 25, 3) := by decide +kernel
theorem dX3_clock_79 : decode cX3_clock 79 = .ok (.bipush 64, 2) := by decide +kernel
theorem dX3_clock_81 : decode cX3_clock 81 = .ok (.iload_n 1, 1) := by decide +kernel
theorem dX3_clock_82 : decode cX3_clock 82 = .ok (.imul, 1) := by decide +kernel
theorem dX3_clock_83 : decode cX3_clock 83 = .ok (.iload 4, 2) := by decide +kernel
theorem dX3_clock_85 : decode cX3_clock 85 = .ok (.iadd, 1) := by decide +kernel
theorem dX3_clock_86 : decode cX3_clock 86 = .ok (.iconst 0, 1) := by decide +kernel
theorem dX3_clock_87 : decode cX3_clock 87 = .ok (.bastore, 1) := by decide +kernel
theorem dX3_clock_88 : decode cX3_clock 88 = .ok (.aload_n 0, 1) := by decide +kernel
theorem dX3_clock_89 : decode cX3_clock 89 = .ok (.iload_n 3, 1) := by decide +kernel
theorem dX3_clock_90 : decode cX3_clock 90 = .ok (.iload 4, 2) := by decide +kernel
theorem dX3_clock_92 : decode cX3_clock 92 = .ok (.invokevirtual 46, 3) := by decide +kernel
theorem dX3_clock_95 : decode cX3_clock 95 = .ok (.aload_n 0, 1) := by decide +kernel
theorem dX3_clock_96 : decode cX3_clock 96 = .ok (.iload_n 3, 1) := by decide +kernel
theorem dX3_clock_97 : decode cX3_clock 97 = .ok (.iload 4, 2) := by decide +kernel
theorem dX3_clock_99 : decode cX3_clock 99 = .ok (.invokevirtual 68, 3) := by decide +kernel
theorem dX3_clock_102 : decode cX3_clock 102 = .ok (.goto (-60), 3) := by decide +kernel
theorem dX3_clock_105 : decode cX3_clock 105 = .ok (.aload_n 0, 1) := by decide +kernel
theorem dX3_clock_106 : decode cX3_clock 106 = .ok (.aload_n 0, 1) := by decide +kernel
theorem dX3_clock_107 : decode cX3_clock 107 = .ok (.getfield 22, 3) := by decide +kernel
theorem dX3_clock_110 : decode cX3_clock 110 = .ok (.bipush 20, 2) := by decide +kernel
theorem dX3_clock_112 : decode cX3_clock 112 = .ok (.iload_n 3, 1) := by decide +kernel
theorem dX3_clock_113 : decode cX3_clock 113 = .ok (.imul, 1) := by decide +kernel
theorem dX3_clock_114 : decode cX3_clock 114 = .ok (.iaload, 1) := by decide +kernel
theorem dX3_clock_115 : decode cX3_clock 115 = .ok (.putfield 65, 3) := by decide +kernel
theorem dX3_clock_118 : decode cX3_clock 118 = .ok (.aload_n 0, 1) := by decide +kernel
theorem dX3_clock_119 : decode cX3_clock 119 = .ok (.iload_n 3, 1) := by decide +kernel
theorem dX3_clock_120 : decode cX3_clock 120 = .ok (.aload_n 0, 1) := by decide +kernel
theorem dX3_clock_121 : decode cX3_clock 121 = .ok (.getfield 65, 3) := by decide +kernel
theorem dX3_clock_124 : decode cX3_clock 124 = .ok (.invokevirtual 46, 3) := by decide +kernel
theorem dX3_clock_127 : decode cX3_clock 127 = .ok (.aload_n 0, 1) := by decide +kernel
theorem dX3_clock_128 : decode cX3_clock 128 = .ok (.iload_n 3, 1) := by decide +kernel
theorem dX3_clock_129 : decode cX3_clock 129 = .ok (.iload_n 2, 1) := by decide +kernel
theorem dX3_clock_130 : decode cX3_clock 130 = .ok (.invokevirtual 68, 3) := by decide +kernel
theorem dX3_clock_133 : decode cX3_clock 133 = .ok (.iconst 0, 1) := by decide +kernel
theorem dX3_clock_134 : decode cX3_clock 134 = .ok (.ireturn, 1) := by decide +kernel
set_option maxRecDepth 20000 in
theorem ggX3_makeRoom_X3_cutTail : GoodIn wsX3_makeRoom wsX3_cutTail := goodIn_r _ [8, 2, 9, 14, 15, 16, 17, 18, 19, 20, 21, 22, 23, 24] (by decide +kernel) (by decide +kernel)
set_option maxRecDepth 20000 in
theorem gX3_makeRoom_X3_cutTail : GoodIn wsX3_makeRoom (wsV RX3 61 RX3 yX3_cutTail wsX3_cutTail) := goodIn_app (goodIn_of _ (by decide +kernel)) ggX3_makeRoom_X3_cutTail
set_option maxRecDepth 20000 in
theorem ggX3_makeRoom_X3_toHead : GoodIn wsX3_makeRoom wsX3_toHead := goodIn_r _ [13, 2, 9, 14, 15, 16, 17, 18, 19, 20, 21, 22, 23, 24] (by decide +kernel) (by decide +kernel)
set_option maxRecDepth 20000 in
theorem gX3_makeRoom_X3_toHead : GoodIn wsX3_makeRoom (wsV RX3 50 RX3 yX3_toHead wsX3_toHead) := goodIn_app (goodIn_of _ (by decide +kernel)) ggX3_makeRoom_X3_toHead
theorem dX3_makeRoom_0 : decode cX3_makeRoom 0 = .ok (.iconst 4, 1) := by decide +kernel
theorem dX3_makeRoom_1 : decode cX3_makeRoom 1 = .ok (.iload_n 1, 1) := by decide +kernel
theorem dX3_makeRoom_2 : decode cX3_makeRoom 2 = .ok (.imul, 1) := by decide +kernel
theorem dX3_makeRoom_3 : decode cX3_makeRoom 3 = .ok (.istore_n 2, 1) := by decide +kernel
theorem dX3_makeRoom_4 : decode cX3_makeRoom 4 = .ok (.aload_n 0, 1) := by decide +kernel
theorem dX3_makeRoom_5 : decode cX3_makeRoom 5 = .ok (.getfield 13, 3) := by decide +kernel
theorem dX3_makeRoom_8 : decode cX3_makeRoom 8 = .ok (.iload_n 1, 1) := by decide +kernel
theorem dX3_makeRoom_9 : decode cX3_makeRoom 9 = .ok (.iaload, 1) := by decide +kernel
theorem dX3_makeRoom_10 : decode cX3_makeRoom 10 = .ok (.istore_n 3, 1) := by decide +kernel
theorem dX3_makeRoom_11 : decode cX3_makeRoom 11 = .ok (.aload_n 0, 1) := by decide +kernel
theorem dX3_makeRoom_12 : decode cX3_makeRoom 12 = .ok (.getfield 19, 3) := by decide +kernel
theorem dX3_makeRoom_15 : decode cX3_makeRoom 15 = .ok (.iload_n 2, 1) := by decide +kernel
theorem dX3_makeRoom_16 : decode cX3_makeRoom 16 = .ok (.iaload, 1) := by decide +kernel
theorem dX3_makeRoom_17 : decode cX3_makeRoom 17 = .ok (.aload_n 0, 1) := by decide +kernel
theorem dX3_makeRoom_18 : decode cX3_makeRoom 18 = .ok (.getfield 19, 3) := by decide +kernel
theorem dX3_makeRoom_21 : decode cX3_makeRoom 21 = .ok (.iload_n 2, 1) := by decide +kernel
theorem dX3_makeRoom_22 : decode cX3_makeRoom 22 = .ok (.iconst 2, 1) := by decide +kernel
theorem dX3_makeRoom_23 : decode cX3_makeRoom 23 = .ok (.iadd, 1) := by decide +kernel
theorem dX3_makeRoom_24 : decode cX3_makeRoom 24 = .ok (.iaload, 1) := by decide +kernel
theorem dX3_makeRoom_25 : decode cX3_makeRoom 25 = .ok (.iadd, 1) := by decide +kernel
theorem dX3_makeRoom_26 : decode cX3_makeRoom 26 = .ok (.iload_n 3, 1) := by decide +kernel
theorem dX3_makeRoom_27 : decode cX3_makeRoom 27 = .ok (.if_icmp .ge 4, 3) := by decide +kernel
theorem dX3_makeRoom_30 : decode cX3_makeRoom 30 = .ok (.return_, 1) := by decide +kernel
theorem dX3_makeRoom_31 : decode cX3_makeRoom 31 = .ok (.aload_n 0, 1) := by decide +kernel
theorem dX3_makeRoom_32 : decode cX3_makeRoom 32 = .ok (.getfield 19, 3) := by decide +kernel
theorem dX3_makeRoom_35 : decode cX3_makeRoom 35 = .ok (.iload_n 2, 1) := by decide +kernel
theorem dX3_makeRoom_36 : decode cX3_makeRoom 36 = .ok (.iaload, 1) := by decide +kernel
theorem dX3_makeRoom_37 : decode cX3_makeRoom 37 = .ok (.iload_n 3, 1) := by decide +kernel
theorem dX3_makeRoom_38 : decode cX3_makeRoom 38 = .ok (.iconst 4, 1) := by decide +kernel
theorem dX3_makeRoom_39 : decode cX3_makeRoom 39 = .ok (.idiv, 1) := by decide +kernel
theorem dX3_makeRoom_40 : decode cX3_makeRoom 40 = .ok (.if_icmp .gt 15, 3) := by decide +kernel
theorem dX3_makeRoom_43 : decode cX3_makeRoom 43 = .ok (.aload_n 0, 1) := by decide +kernel
theorem dX3_makeRoom_44 : decode cX3_makeRoom 44 = .ok (.aload_n 0, 1) := by decide +kernel
theorem dX3_makeRoom_45 : decode cX3_makeRoom 45 = .ok (.iload_n 2, 1) := by decide +kernel
theorem dX3_makeRoom_46 : decode cX3_makeRoom 46 = .ok (.iconst 2, 1) := by decide +kernel
theorem dX3_makeRoom_47 : decode cX3_makeRoom 47 = .ok (.iadd, 1) := by decide +kernel
theorem dX3_makeRoom_48 : decode cX3_makeRoom 48 = .ok (.invokevirtual 61, 3) := by decide +kernel
theorem dX3_makeRoom_51 : decode cX3_makeRoom 51 = .ok (.putfield 65, 3) := by decide +kernel
theorem dX3_makeRoom_54 : decode cX3_makeRoom 54 = .ok (.return_, 1) := by decide +kernel
theorem dX3_makeRoom_55 : decode cX3_makeRoom 55 = .ok (.aload_n 0, 1) := by decide +kernel
theorem dX3_makeRoom_56 : decode cX3_makeRoom 56 = .ok (.aload_n 0, 1) := by decide +kernel
theorem dX3_makeRoom_57 : decode cX3_makeRoom 57 = .ok (.iload_n 2, 1) := by decide +kernel
theorem dX3_makeRoom_58 : decode cX3_makeRoom 58 = .ok (.invokevirtual 61, 3) := by decide +kernel
theorem dX3_makeRoom_61 : decode cX3_makeRoom 61 = .ok (.putfield 65, 3) := by decide +kernel
theorem dX3_makeRoom_64 : decode cX3_makeRoom 64 = .ok (.aload_n 0, 1) := by decide +kernel
theorem dX3_makeRoom_65 : decode cX3_makeRoom 65 = .ok (.iload_n 2, 1) := by decide +kernel
theorem dX3_makeRoom_66 : decode cX3_makeRoom 66 = .ok (.iconst 1, 1) := by decide +kernel
theorem dX3_makeRoom_67 : decode cX3_makeRoom 67 = .ok (.iadd, 1) := by decide +kernel
theorem dX3_makeRoom_68 : decode cX3_makeRoom 68 = .ok (.aload_n 0, 1) := by decide +kernel
theorem dX3_makeRoom_69 : decode cX3_makeRoom 69 = .ok (.getfield 65, 3) := by decide +kernel
theorem dX3_makeRoom_72 : decode cX3_makeRoom 72 = .ok (.invokevirtual 50, 3) := by decide +kernel
theorem dX3_makeRoom_75 : decode cX3_makeRoom 75 = .ok (.iload_n 3, 1) := by decide +kernel
theorem dX3_makeRoom_76 : decode cX3_makeRoom 76 = .ok (.iconst 2, 1) := by decide +kernel
theorem dX3_makeRoom_77 : decode cX3_makeRoom 77 = .ok (.idiv, 1) := by decide +kernel
theorem dX3_makeRoom_78 : decode cX3_makeRoom 78 = .ok (.iconst 1, 1) := by decide +kernel
theorem dX3_makeRoom_79 : decode cX3_makeRoom 79 = .ok (.if_icmp .ge 7, 3) := by decide +kernel
theorem dX3_makeRoom_82 : decode cX3_makeRoom 82 = .ok (.iconst 1, 1) := by decide +kernel
theorem dX3_makeRoom_83 : decode cX3_makeRoom 83 = .ok (.goto 6, 3) := by decide +kernel
theorem dX3_makeRoom_86 : decode cX3_makeRoom 86 = .ok (.iload_n 3, 1) := by decide +kernel
theorem dX3_makeRoom_87 : decode cX3_makeRoom 87 = .ok (.iconst 2, 1) := by decide +kernel
theorem dX3_makeRoom_88 : decode cX3_makeRoom 88 = .ok (.idiv, 1) := by decide +kernel
theorem dX3_makeRoom_89 : decode cX3_makeRoom 89 = .ok (.istore 4, 2) := by decide +kernel
theorem dX3_makeRoom_91 : decode cX3_makeRoom 91 = .ok (.aload_n 0, 1) := by decide +kernel
theorem dX3_makeRoom_92 : decode cX3_makeRoom 92 = .ok (.getfield 19, 3) := by decide +kernel
theorem dX3_makeRoom_95 : decode cX3_makeRoom 95 = .ok (.iload_n 2, 1) := by decide +kernel
theorem dX3_makeRoom_96 : decode cX3_makeRoom 96 = .ok (.iconst 1, 1) := by decide +kernel
theorem dX3_makeRoom_97 : decode cX3_makeRoom 97 = .ok (.iadd, 1) := by decide +kernel
theorem dX3_makeRoom_98 : decode cX3_makeRoom 98 = .ok (.aload_n 0, 1) := by decide +kernel
theorem dX3_makeRoom_99 : decode cX3_makeRoom 99 = .ok (.getfield 19, 3) := by decide +kernel
theorem dX3_makeRoom_102 : decode cX3_makeRoom 102 = .ok (.iload_n 2, 1) := by decide +kernel
theorem dX3_makeRoom_103 : decode cX3_makeRoom 103 = .ok (.iconst 1, 1) := by decide +kernel
theorem dX3_makeRoom_104 : decode cX3_makeRoom 104 = .ok (.iadd, 1) := by decide +kernel
theorem dX3_makeRoom_105 : decode cX3_makeRoom 105 = .ok (.iaload, 1) := by decide +kernel
theorem dX3_makeRoom_106 : decode cX3_makeRoom 106 = .ok (.iload 4, 2) := by decide +kernel
theorem dX3_makeRoom_108 : decode cX3_makeRoom 108 = .ok (.if_icmp .le 16, 3) := by decide +kernel
theorem dX3_makeRoom_111 : decode cX3_makeRoom 111 = .ok (.aload_n 0, 1) := by decide +kernel
theorem dX3_makeRoom_112 : decode cX3_makeRoom 112 = .ok (.getfield 19, 3) := by decide +kernel
theorem dX3_makeRoom_115 : decode cX3_makeRoom 115 = .ok (.iload_n 2, 1) := by decide +kernel
theorem dX3_makeRoom_116 : decode cX3_makeRoom 116 = .ok (.iconst 1, 1) := by decide +kernel
theorem dX3_makeRoom_117 : decode cX3_makeRoom 117 = .ok (.iadd, 1) := by decide +kernel
theorem dX3_makeRoom_118 : decode cX3_makeRoom 118 = .ok (.iaload, 1) := by decide +kernel
theorem dX3_makeRoom_119 : decode cX3_makeRoom 119 = .ok (.iconst 1, 1) := by decide +kernel
theorem dX3_makeRoom_120 : decode cX3_makeRoom 120 = .ok (.isub, 1) := by decide +kernel
theorem dX3_makeRoom_121 : decode cX3_makeRoom 121 = .ok (.goto 11, 3) := by decide +kernel
theorem dX3_makeRoom_124 : decode cX3_makeRoom 124 = .ok (.aload_n 0, 1) := by decide +kernel
theorem dX3_makeRoom_125 : decode cX3_makeRoom 125 = .ok (.getfield 19, 3) := by decide +kernel
theorem dX3_makeRoom_128 : decode cX3_makeRoom 128 = .ok (.iload_n 2, 1) := by decide +kernel
theorem dX3_makeRoom_129 : decode cX3_makeRoom 129 = .ok (.iconst 1, 1) := by decide +kernel
theorem dX3_makeRoom_130 : decode cX3_makeRoom 130 = .ok (.iadd, 1) := by decide +kernel
theorem dX3_makeRoom_131 : decode cX3_makeRoom 131 = .ok (.iaload, 1) := by decide +kernel
theorem dX3_makeRoom_132 : decode cX3_makeRoom 132 = .ok (.iastore, 1) := by decide +kernel
theorem dX3_makeRoom_133 : decode cX3_makeRoom 133 = .ok (.return_, 1) := by decide +kernel
set_option maxRecDepth 20000 in
theorem ggX3_queues_X3_isIn : GoodIn wsX3_queues wsX3_isIn := goodIn_r _ [5, 6, 7, 8, 4, 9, 10, 11, 34, 35, 36, 37, 38, 39, 40, 41, 42, 43, 44] (by decide +kernel) (by decide +kernel)
set_option maxRecDepth 20000 in
theorem gX3_queues_X3_isIn : GoodIn wsX3_queues (wsV RX3 53 RX3 yX3_isIn wsX3_isIn) := goodIn_app (goodIn_of _ (by decide +kernel)) ggX3_queues_X3_isIn
set_option maxRecDepth 20000 in
theorem ggX3_queues_X3_move : GoodIn wsX3_queues wsX3_move := goodIn_r _ [15, 16, 17, 18, 4, 19, 10, 11, 6, 7, 8, 9, 20, 21, 22, 23, 34, 35, 36, 37, 38, 39, 40, 41, 42, 43, 44] (by decide +kernel) (by decide +kernel)
set_option maxRecDepth 20000 in
theorem gX3_queues_X3_move : GoodIn wsX3_queues (wsV RX3 57 RX3 yX3_move wsX3_move) := goodIn_app (goodIn_of _ (by decide +kernel)) ggX3_queues_X3_move
set_option maxRecDepth 20000 in
theorem ggX3_queues_X3_takeOut : GoodIn wsX3_queues wsX3_takeOut := goodIn_r _ [19, 10, 11, 6, 7, 8, 4, 9, 34, 35, 36, 37, 38, 39, 40, 41, 42, 43, 44] (by decide +kernel) (by decide +kernel)
set_option maxRecDepth 20000 in
theorem gX3_queues_X3_takeOut : GoodIn wsX3_queues (wsV RX3 46 RX3 yX3_takeOut wsX3_takeOut) := goodIn_app (goodIn_of _ (by decide +kernel)) ggX3_queues_X3_takeOut
set_option maxRecDepth 20000 in
theorem ggX3_queues_X3_makeRoom : GoodIn wsX3_queues wsX3_makeRoom := goodIn_r _ [27, 28, 10, 29, 30, 31, 32, 4, 33, 11, 20, 21, 22, 23, 34, 35, 36, 37, 38, 39, 40, 41, 42, 43, 44] (by decide +kernel) (by decide +kernel)
set_option maxRecDepth 20000 in
theorem gX3_queues_X3_makeRoom : GoodIn wsX3_queues (wsV RX3 71 RX3 yX3_makeRoom wsX3_makeRoom) := goodIn_app (goodIn_of _ (by decide +kernel)) ggX3_queues_X3_makeRoom
set_option maxRecDepth 20000 in
theorem ggX3_queues_X3_toHead : GoodIn wsX3_queues wsX3_toHead := goodIn_r _ [23, 10, 11, 34, 35, 36, 37, 38, 39, 40, 41, 42, 43, 44] (by decide +kernel) (by decide +kernel)
set_option maxRecDepth 20000 in
theorem gX3_queues_X3_toHead : GoodIn wsX3_queues (wsV RX3 50 RX3 yX3_toHead wsX3_toHead) := goodIn_app (goodIn_of _ (by decide +kernel)) ggX3_queues_X3_toHead
theorem dX3_queues_0 : decode cX3_queues 0 = .ok (.iconst 4, 1) := by decide +kernel
theorem dX3_queues_1 : decode cX3_queues 1 = .ok (.iload_n 1, 1) := by decide +kernel
theorem dX3_queues_2 : decode cX3_queues 2 = .ok (.imul, 1) := by decide +kernel
theorem dX3_queues_3 : decode cX3_queues 3 = .ok (.istore_n 3, 1) := by decide +kernel
theorem dX3_queues_4 : decode cX3_queues 4 = .ok (.aload_n 0, 1) := by decide +kernel
theorem dX3_queues_5 : decode cX3_queues 5 = .ok (.iload_n 3, 1) := by decide +kernel
theorem dX3_queues_6 : decode cX3_queues 6 = .ok (.iconst 2, 1) := by decide +kernel
theorem dX3_queues_7 : decode cX3_queues 7 = .ok (.iadd, 1) := by decide +kernel
theorem dX3_queues_8 : decode cX3_queues 8 = .ok (.iload_n 2, 1) := by decide +kernel
theorem dX3_queues_9 : decode cX3_queues 9 = .ok (.invokevirtual 53, 3) := by decide +kernel
theorem dX3_queues_12 : decode cX3_queues 12 = .ok (.ifCond .eq 16, 3) := by decide +kernel
theorem dX3_queues_15 : decode cX3_queues 15 = .ok (.aload_n 0, 1) := by decide +kernel
theorem dX3_queues_16 : decode cX3_queues 16 = .ok (.iload_n 3, 1) := by decide +kernel
theorem dX3_queues_17 : decode cX3_queues 17 = .ok (.iconst 2, 1) := by decide +kernel
theorem dX3_queues_18 : decode cX3_queues 18 = .ok (.iadd, 1) := by decide +kernel
theorem dX3_queues_19 : decode cX3_queues 19 = .ok (.iload_n 3, 1) := by decide +kernel
theorem dX3_queues_20 : decode cX3_queues 20 = .ok (.iconst 2, 1) := by decide +kernel
theorem dX3_queues_21 : decode cX3_queues 21 = .ok (.iadd, 1) := by decide +kernel
theorem dX3_queues_22 : decode cX3_queues 22 = .ok (.iload_n 2, 1) := by decide +kernel
theorem dX3_queues_23 : decode cX3_queues 23 = .ok (.invokevirtual 57, 3) := by decide +kernel
theorem dX3_queues_26 : decode cX3_queues 26 = .ok (.iconst 1, 1) := by decide +kernel
theorem dX3_queues_27 : decode cX3_queues 27 = .ok (.ireturn, 1) := by decide +kernel
theorem dX3_queues_28 : decode cX3_queues 28 = .ok (.aload_n 0, 1) := by decide +kernel
theorem dX3_queues_29 : decode cX3_queues 29 = .ok (.iload_n 3, 1) := by decide +kernel
theorem dX3_queues_30 : decode cX3_queues 30 = .ok (.iload_n 2, 1) := by decide +kernel
theorem dX3_queues_31 : decode cX3_queues 31 = .ok (.invokevirtual 53, 3) := by decide +kernel
theorem dX3_queues_34 : decode cX3_queues 34 = .ok (.ifCond .eq 5, 3) := by decide +kernel
theorem dX3_queues_37 : decode cX3_queues 37 = .ok (.iconst 1, 1) := by decide +kernel
theorem dX3_queues_38 : decode cX3_queues 38 = .ok (.ireturn, 1) := by decide +kernel
theorem dX3_queues_39 : decode cX3_queues 39 = .ok (.iload_n 3, 1) := by decide +kernel
theorem dX3_queues_40 : decode cX3_queues 40 = .ok (.istore 4, 2) := by decide +kernel
theorem dX3_queues_42 : decode cX3_queues 42 = .ok (.aload_n 0, 1) := by decide +kernel
theorem dX3_queues_43 : decode cX3_queues 43 = .ok (.iload_n 3, 1) := by decide +kernel
theorem dX3_queues_44 : decode cX3_queues 44 = .ok (.iconst 1, 1) := by decide +kernel
theorem dX3_queues_45 : decode cX3_queues 45 = .ok (.iadd, 1) := by decide +kernel
theorem dX3_queues_46 : decode cX3_queues 46 = .ok (.iload_n 2, 1) := by decide +kernel
theorem dX3_queues_47 : decode cX3_queues 47 = .ok (.invokevirtual 53, 3) := by decide +kernel
theorem dX3_queues_50 : decode cX3_queues 50 = .ok (.ifCond .eq 16, 3) := by decide +kernel
theorem dX3_queues_53 : decode cX3_queues 53 = .ok (.aload_n 0, 1) := by decide +kernel
theorem dX3_queues_54 : decode cX3_queues 54 = .ok (.iload_n 3, 1) := by decide +kernel
theorem dX3_queues_55 : decode cX3_queues 55 = .ok (.iconst 1, 1) := by decide +kernel
theorem dX3_queues_56 : decode cX3_queues 56 = .ok (.iadd, 1) := by decide +kernel
theorem dX3_queues_57 : decode cX3_queues 57 = .ok (.iload_n 2, 1) := by decide +kernel
theorem dX3_queues_58 : decode cX3_queues 58 = .ok (.invokevirtual 46, 3) := by decide +kernel
theorem dX3_queues_61 : decode cX3_queues 61 = .ok (.iload_n 3, 1) := by decide +kernel
theorem dX3_queues_62 : decode cX3_queues 62 = .ok (.iconst 2, 1) := by decide +kernel
theorem dX3_queues_63 : decode cX3_queues 63 = .ok (.iadd, 1) := by decide +kernel
theorem dX3_queues_64 : decode cX3_queues 64 = .ok (.istore 4, 2) := by decide +kernel
theorem dX3_queues_66 : decode cX3_queues 66 = .ok (.aload_n 0, 1) := by decide +kernel
theorem dX3_queues_67 : decode cX3_queues 67 = .ok (.iload_n 1, 1) := by decide +kernel
theorem dX3_queues_68 : decode cX3_queues 68 = .ok (.invokevirtual 71, 3) := by decide +kernel
theorem dX3_queues_71 : decode cX3_queues 71 = .ok (.aload_n 0, 1) := by decide +kernel
theorem dX3_queues_72 : decode cX3_queues 72 = .ok (.iload 4, 2) := by decide +kernel
theorem dX3_queues_74 : decode cX3_queues 74 = .ok (.iload_n 2, 1) := by decide +kernel
theorem dX3_queues_75 : decode cX3_queues 75 = .ok (.invokevirtual 50, 3) := by decide +kernel
theorem dX3_queues_78 : decode cX3_queues 78 = .ok (.iconst 0, 1) := by decide +kernel
theorem dX3_queues_79 : decode cX3_queues 79 = .ok (.ireturn, 1) := by decide +kernel
set_option maxRecDepth 20000 in
theorem ggX3_putOut_X3_cutTail : GoodIn wsX3_putOut wsX3_cutTail := goodIn_r _ [8, 1, 9, 14, 15, 16, 17, 18, 19, 20, 21, 22, 23, 24] (by decide +kernel) (by decide +kernel)
set_option maxRecDepth 20000 in
theorem gX3_putOut_X3_cutTail : GoodIn wsX3_putOut (wsV RX3 61 RX3 yX3_cutTail wsX3_cutTail) := goodIn_app (goodIn_of _ (by decide +kernel)) ggX3_putOut_X3_cutTail
set_option maxRecDepth 20000 in
theorem ggX3_putOut_X3_toHead : GoodIn wsX3_putOut wsX3_toHead := goodIn_r _ [13, 1, 9, 14, 15, 16, 17, 18, 19, 20, 21, 22, 23, 24] (by decide +kernel) (by decide +kernel)
set_option maxRecDepth 20000 in
theorem gX3_putOut_X3_toHead : GoodIn wsX3_putOut (wsV RX3 50 RX3 yX3_toHead wsX3_toHead) := goodIn_app (goodIn_of _ (by decide +kernel)) ggX3_putOut_X3_toHead
theorem dX3_putOut_0 : decode cX3_putOut 0 = .ok (.iconst 4, 1) := by decide +kernel
theorem dX3_putOut_1 : decode cX3_putOut 1 = .ok (.iload_n 1, 1) := by decide +kernel
theorem dX3_putOut_2 : decode cX3_putOut 2 = .ok (.imul, 1) := by decide +kernel
theorem dX3_putOut_3 : decode cX3_putOut 3 = .ok (.istore_n 3, 1) := by decide +kernel
theorem dX3_putOut_4 : decode cX3_putOut 4 = .ok (.aload_n 0, 1) := by decide +kernel
theorem dX3_putOut_5 : decode cX3_putOut 5 = .ok (.getfield 19, 3) := by decide +kernel
theorem dX3_putOut_8 : decode cX3_putOut 8 = .ok (.iload_n 3, 1) := by decide +kernel
theorem dX3_putOut_9 : decode cX3_putOut 9 = .ok (.iaload, 1) := by decide +kernel
theorem dX3_putOut_10 : decode cX3_putOut 10 = .ok (.istore 4, 2) := by decide +kernel
theorem dX3_putOut_12 : decode cX3_putOut 12 = .ok (.iload 4, 2) := by decide +kernel
theorem dX3_putOut_14 : decode cX3_putOut 14 = .ok (.ifCond .le 33, 3) := by decide +kernel
theorem dX3_putOut_17 : decode cX3_putOut 17 = .ok (.iload 4, 2) := by decide +kernel
theorem dX3_putOut_19 : decode cX3_putOut 19 = .ok (.aload_n 0, 1) := by decide +kernel
theorem dX3_putOut_20 : decode cX3_putOut 20 = .ok (.getfield 16, 3) := by decide +kernel
theorem dX3_putOut_23 : decode cX3_putOut 23 = .ok (.iload_n 1, 1) := by decide +kernel
theorem dX3_putOut_24 : decode cX3_putOut 24 = .ok (.iaload, 1) := by decide +kernel
theorem dX3_putOut_25 : decode cX3_putOut 25 = .ok (.if_icmp .gt 18, 3) := by decide +kernel
theorem dX3_putOut_28 : decode cX3_putOut 28 = .ok (.iload 4, 2) := by decide +kernel
theorem dX3_putOut_30 : decode cX3_putOut 30 = .ok (.aload_n 0, 1) := by decide +kernel
theorem dX3_putOut_31 : decode cX3_putOut 31 = .ok (.getfield 16, 3) := by decide +kernel
theorem dX3_putOut_34 : decode cX3_putOut 34 = .ok (.iload_n 1, 1) := by decide +kernel
theorem dX3_putOut_35 : decode cX3_putOut 35 = .ok (.iaload, 1) := by decide +kernel
theorem dX3_putOut_36 : decode cX3_putOut 36 = .ok (.if_icmp .ne 11, 3) := by decide +kernel
theorem dX3_putOut_39 : decode cX3_putOut 39 = .ok (.iload_n 2, 1) := by decide +kernel
theorem dX3_putOut_40 : decode cX3_putOut 40 = .ok (.ifCond .eq 7, 3) := by decide +kernel
theorem dX3_putOut_43 : decode cX3_putOut 43 = .ok (.iconst 1, 1) := by decide +kernel
theorem dX3_putOut_44 : decode cX3_putOut 44 = .ok (.goto 4, 3) := by decide +kernel
theorem dX3_putOut_47 : decode cX3_putOut 47 = .ok (.iconst 0, 1) := by decide +kernel
theorem dX3_putOut_48 : decode cX3_putOut 48 = .ok (.istore 5, 2) := by decide +kernel
theorem dX3_putOut_50 : decode cX3_putOut 50 = .ok (.aload_n 0, 1) := by decide +kernel
theorem dX3_putOut_51 : decode cX3_putOut 51 = .ok (.aload_n 0, 1) := by decide +kernel
theorem dX3_putOut_52 : decode cX3_putOut 52 = .ok (.iload 5, 2) := by decide +kernel
theorem dX3_putOut_54 : decode cX3_putOut 54 = .ok (.ifCond .eq 7, 3) := by decide +kernel
theorem dX3_putOut_57 : decode cX3_putOut 57 = .ok (.iload_n 3, 1) := by decide +kernel
theorem dX3_putOut_58 : decode cX3_putOut 58 = .ok (.goto 6, 3) := by decide +kernel
theorem dX3_putOut_61 : decode cX3_putOut 61 = .ok (.iload_n 3, 1) := by decide +kernel
theorem dX3_putOut_62 : decode cX3_putOut 62 = .ok (.iconst 1, 1) := by decide +kernel
theorem dX3_putOut_63 : decode cX3_putOut 63 = .ok (.iadd, 1) := by decide +kernel
theorem dX3_putOut_64 : decode cX3_putOut 64 = .ok (.invokevirtual 61, 3) := by decide +kernel
theorem dX3_putOut_67 : decode cX3_putOut 67 = .ok (.putfield 65, 3) := by decide +kernel
theorem dX3_putOut_70 : decode cX3_putOut 70 = .ok (.aload_n 0, 1) := by decide +kernel
theorem dX3_putOut_71 : decode cX3_putOut 71 = .ok (.iload 5, 2) := by decide +kernel
theorem dX3_putOut_73 : decode cX3_putOut 73 = .ok (.ifCond .eq 9, 3) := by decide +kernel
theorem dX3_putOut_76 : decode cX3_putOut 76 = .ok (.iload_n 3, 1) := by decide +kernel
theorem dX3_putOut_77 : decode cX3_putOut 77 = .ok (.iconst 2, 1) := by decide +kernel
theorem dX3_putOut_78 : decode cX3_putOut 78 = .ok (.iadd, 1) := by decide +kernel
theorem dX3_putOut_79 : decode cX3_putOut 79 = .ok (.goto 6, 3) := by decide +kernel
theorem dX3_putOut_82 : decode cX3_putOut 82 = .ok (.iload_n 3, 1) := by decide +kernel
theorem dX3_putOut_83 : decode cX3_putOut 83 = .ok (.iconst 3, 1) := by decide +kernel
theorem dX3_putOut_84 : decode cX3_putOut 84 = .ok (.iadd, 1) := by decide +kernel
theorem dX3_putOut_85 : decode cX3_putOut 85 = .ok (.aload_n 0, 1) := by decide +kernel
theorem dX3_putOut_86 : decode cX3_putOut 86 = .ok (.getfield 65, 3) := by decide +kernel
theorem dX3_putOut_89 : decode cX3_putOut 89 = .ok (.invokevirtual 50, 3) := by decide +kernel
theorem dX3_putOut_92 : decode cX3_putOut 92 = .ok (.return_, 1) := by decide +kernel
theorem dX3_greater_0 : decode cX3_greater 0 = .ok (.iload_n 0, 1) := by decide +kernel
theorem dX3_greater_1 : decode cX3_greater 1 = .ok (.iload_n 1, 1) := by decide +kernel
theorem dX3_greater_2 : decode cX3_greater 2 = .ok (.if_icmp .le 7, 3) := by decide +kernel
theorem dX3_greater_5 : decode cX3_greater 5 = .ok (.iload_n 0, 1) := by decide +kernel
theorem dX3_greater_6 : decode cX3_greater 6 = .ok (.goto 4, 3) := by decide +kernel
theorem dX3_greater_9 : decode cX3_greater 9 = .ok (.iload_n 1, 1) := by decide +kernel
theorem dX3_greater_10 : decode cX3_greater 10 = .ok (.ireturn, 1) := by decide +kernel
set_option maxRecDepth 20000 in
theorem ggX3_back_X3_greater : GoodIn wsX3_back wsX3_greater := goodIn_r _ [7] (by decide +kernel) (by decide +kernel)
set_option maxRecDepth 20000 in
theorem gX3_back_X3_greater : GoodIn wsX3_back (va_wsS RX3 75 yX3_greater wsX3_greater) := goodIn_app (goodIn_of _ (by decide +kernel)) ggX3_back_X3_greater
set_option maxRecDepth 20000 in
theorem ggX3_back_X3_putOut : GoodIn wsX3_back wsX3_putOut := goodIn_r _ [11, 1, 2, 12, 13, 14, 15, 6, 16, 17, 18, 19, 20, 21, 34, 35, 36, 37, 38, 39, 40, 41, 42, 43, 44] (by decide +kernel) (by decide +kernel)
set_option maxRecDepth 20000 in
theorem gX3_back_X3_putOut : GoodIn wsX3_back (wsV RX3 78 RX3 yX3_putOut wsX3_putOut) := goodIn_app (goodIn_of _ (by decide +kernel)) ggX3_back_X3_putOut
set_option maxRecDepth 20000 in
theorem ggX3_back_X3_move : GoodIn wsX3_back wsX3_move := goodIn_r _ [25, 26, 27, 28, 6, 29, 1, 17, 30, 31, 32, 33, 18, 19, 20, 21, 34, 35, 36, 37, 38, 39, 40, 41, 42, 43, 44] (by decide +kernel) (by decide +kernel)
set_option maxRecDepth 20000 in
theorem gX3_back_X3_move : GoodIn wsX3_back (wsV RX3 57 RX3 yX3_move wsX3_move) := goodIn_app (goodIn_of _ (by decide +kernel)) ggX3_back_X3_move
theorem dX3_back_0 : decode cX3_back 0 = .ok (.iconst 4, 1) := by decide +kernel
theorem dX3_back_1 : decode cX3_back 1 = .ok (.iload_n 1, 1) := by decide +kernel
theorem dX3_back_2 : decode cX3_back 2 = .ok (.imul, 1) := by decide +kernel
theorem dX3_back_3 : decode cX3_back 3 = .ok (.istore 4, 2) := by decide +kernel
theorem dX3_back_5 : decode cX3_back 5 = .ok (.aload_n 0, 1) := by decide +kernel
theorem dX3_back_6 : decode cX3_back 6 = .ok (.getfield 19, 3) := by decide +kernel
theorem dX3_back_9 : decode cX3_back 9 = .ok (.iload 4, 2) := by decide +kernel
theorem dX3_back_11 : decode cX3_back 11 = .ok (.iconst 2, 1) := by decide +kernel
theorem dX3_back_12 : decode cX3_back 12 = .ok (.iadd, 1) := by decide +kernel
theorem dX3_back_13 : decode cX3_back 13 = .ok (.iaload, 1) := by decide +kernel
theorem dX3_back_14 : decode cX3_back 14 = .ok (.istore 5, 2) := by decide +kernel
theorem dX3_back_16 : decode cX3_back 16 = .ok (.aload_n 0, 1) := by decide +kernel
theorem dX3_back_17 : decode cX3_back 17 = .ok (.getfield 19, 3) := by decide +kernel
theorem dX3_back_20 : decode cX3_back 20 = .ok (.iload 4, 2) := by decide +kernel
theorem dX3_back_22 : decode cX3_back 22 = .ok (.iconst 3, 1) := by decide +kernel
theorem dX3_back_23 : decode cX3_back 23 = .ok (.iadd, 1) := by decide +kernel
theorem dX3_back_24 : decode cX3_back 24 = .ok (.iaload, 1) := by decide +kernel
theorem dX3_back_25 : decode cX3_back 25 = .ok (.istore 6, 2) := by decide +kernel
theorem dX3_back_27 : decode cX3_back 27 = .ok (.iload_n 3, 1) := by decide +kernel
theorem dX3_back_28 : decode cX3_back 28 = .ok (.ifCond .eq 52, 3) := by decide +kernel
theorem dX3_back_31 : decode cX3_back 31 = .ok (.aload_n 0, 1) := by decide +kernel
theorem dX3_back_32 : decode cX3_back 32 = .ok (.getfield 16, 3) := by decide +kernel
theorem dX3_back_35 : decode cX3_back 35 = .ok (.iload_n 1, 1) := by decide +kernel
theorem dX3_back_36 : decode cX3_back 36 = .ok (.iaload, 1) := by decide +kernel
theorem dX3_back_37 : decode cX3_back 37 = .ok (.iconst 1, 1) := by decide +kernel
theorem dX3_back_38 : decode cX3_back 38 = .ok (.iload 6, 2) := by decide +kernel
theorem dX3_back_40 : decode cX3_back 40 = .ok (.iload 5, 2) := by decide +kernel
theorem dX3_back_42 : decode cX3_back 42 = .ok (.idiv, 1) := by decide +kernel
theorem dX3_back_43 : decode cX3_back 43 = .ok (.invokestatic 75, 3) := by decide +kernel
theorem dX3_back_46 : decode cX3_back 46 = .ok (.iadd, 1) := by decide +kernel
theorem dX3_back_47 : decode cX3_back 47 = .ok (.istore 7, 2) := by decide +kernel
theorem dX3_back_49 : decode cX3_back 49 = .ok (.aload_n 0, 1) := by decide +kernel
theorem dX3_back_50 : decode cX3_back 50 = .ok (.getfield 16, 3) := by decide +kernel
theorem dX3_back_53 : decode cX3_back 53 = .ok (.iload_n 1, 1) := by decide +kernel
theorem dX3_back_54 : decode cX3_back 54 = .ok (.iload 7, 2) := by decide +kernel
theorem dX3_back_56 : decode cX3_back 56 = .ok (.aload_n 0, 1) := by decide +kernel
theorem dX3_back_57 : decode cX3_back 57 = .ok (.getfield 13, 3) := by decide +kernel
theorem dX3_back_60 : decode cX3_back 60 = .ok (.iload_n 1, 1) := by decide +kernel
theorem dX3_back_61 : decode cX3_back 61 = .ok (.iaload, 1) := by decide +kernel
theorem dX3_back_62 : decode cX3_back 62 = .ok (.if_icmp .le 12, 3) := by decide +kernel
theorem dX3_back_65 : decode cX3_back 65 = .ok (.aload_n 0, 1) := by decide +kernel
theorem dX3_back_66 : decode cX3_back 66 = .ok (.getfield 13, 3) := by decide +kernel
theorem dX3_back_69 : decode cX3_back 69 = .ok (.iload_n 1, 1) := by decide +kernel
theorem dX3_back_70 : decode cX3_back 70 = .ok (.iaload, 1) := by decide +kernel
theorem dX3_back_71 : decode cX3_back 71 = .ok (.goto 5, 3) := by decide +kernel
theorem dX3_back_74 : decode cX3_back 74 = .ok (.iload 7, 2) := by decide +kernel
theorem dX3_back_76 : decode cX3_back 76 = .ok (.iastore, 1) := by decide +kernel
theorem dX3_back_77 : decode cX3_back 77 = .ok (.goto 33, 3) := by decide +kernel
theorem dX3_back_80 : decode cX3_back 80 = .ok (.aload_n 0, 1) := by decide +kernel
theorem dX3_back_81 : decode cX3_back 81 = .ok (.getfield 16, 3) := by decide +kernel
theorem dX3_back_84 : decode cX3_back 84 = .ok (.iload_n 1, 1) := by decide +kernel
theorem dX3_back_85 : decode cX3_back 85 = .ok (.iaload, 1) := by decide +kernel
theorem dX3_back_86 : decode cX3_back 86 = .ok (.iconst 1, 1) := by decide +kernel
theorem dX3_back_87 : decode cX3_back 87 = .ok (.iload 5, 2) := by decide +kernel
theorem dX3_back_89 : decode cX3_back 89 = .ok (.iload 6, 2) := by decide +kernel
theorem dX3_back_91 : decode cX3_back 91 = .ok (.idiv, 1) := by decide +kernel
theorem dX3_back_92 : decode cX3_back 92 = .ok (.invokestatic 75, 3) := by decide +kernel
theorem dX3_back_95 : decode cX3_back 95 = .ok (.isub, 1) := by decide +kernel
theorem dX3_back_96 : decode cX3_back 96 = .ok (.istore 7, 2) := by decide +kernel
theorem dX3_back_98 : decode cX3_back 98 = .ok (.aload_n 0, 1) := by decide +kernel
theorem dX3_back_99 : decode cX3_back 99 = .ok (.getfield 16, 3) := by decide +kernel
theorem dX3_back_102 : decode cX3_back 102 = .ok (.iload_n 1, 1) := by decide +kernel
theorem dX3_back_103 : decode cX3_back 103 = .ok (.iconst 0, 1) := by decide +kernel
theorem dX3_back_104 : decode cX3_back 104 = .ok (.iload 7, 2) := by decide +kernel
theorem dX3_back_106 : decode cX3_back 106 = .ok (.invokestatic 75, 3) := by decide +kernel
theorem dX3_back_109 : decode cX3_back 109 = .ok (.iastore, 1) := by decide +kernel
theorem dX3_back_110 : decode cX3_back 110 = .ok (.aload_n 0, 1) := by decide +kernel
theorem dX3_back_111 : decode cX3_back 111 = .ok (.iload_n 1, 1) := by decide +kernel
theorem dX3_back_112 : decode cX3_back 112 = .ok (.iload_n 3, 1) := by decide +kernel
theorem dX3_back_113 : decode cX3_back 113 = .ok (.ifCond .ne 7, 3) := by decide +kernel
theorem dX3_back_116 : decode cX3_back 116 = .ok (.iconst 1, 1) := by decide +kernel
theorem dX3_back_117 : decode cX3_back 117 = .ok (.goto 4, 3) := by decide +kernel
theorem dX3_back_120 : decode cX3_back 120 = .ok (.iconst 0, 1) := by decide +kernel
theorem dX3_back_121 : decode cX3_back 121 = .ok (.invokevirtual 78, 3) := by decide +kernel
theorem dX3_back_124 : decode cX3_back 124 = .ok (.aload_n 0, 1) := by decide +kernel
theorem dX3_back_125 : decode cX3_back 125 = .ok (.iload_n 3, 1) := by decide +kernel
theorem dX3_back_126 : decode cX3_back 126 = .ok (.ifCond .eq 10, 3) := by decide +kernel
theorem dX3_back_129 : decode cX3_back 129 = .ok (.iload 4, 2) := by decide +kernel
theorem dX3_back_131 : decode cX3_back 131 = .ok (.iconst 2, 1) := by decide +kernel
theorem dX3_back_132 : decode cX3_back 132 = .ok (.iadd, 1) := by decide +kernel
theorem dX3_back_133 : decode cX3_back 133 = .ok (.goto 7, 3) := by decide +kernel
theorem dX3_back_136 : decode cX3_back 136 = .ok (.iload 4, 2) := by decide +kernel
theorem dX3_back_138 : decode cX3_back 138 = .ok (.iconst 3, 1) := by decide +kernel
theorem dX3_back_139 : decode cX3_back 139 = .ok (.iadd, 1) := by decide +kernel
theorem dX3_back_140 : decode cX3_back 140 = .ok (.iload 4, 2) := by decide +kernel
theorem dX3_back_142 : decode cX3_back 142 = .ok (.iconst 1, 1) := by decide +kernel
theorem dX3_back_143 : decode cX3_back 143 = .ok (.iadd, 1) := by decide +kernel
theorem dX3_back_144 : decode cX3_back 144 = .ok (.iload_n 2, 1) := by decide +kernel
theorem dX3_back_145 : decode cX3_back 145 = .ok (.invokevirtual 57, 3) := by decide +kernel
theorem dX3_back_148 : decode cX3_back 148 = .ok (.return_, 1) := by decide +kernel
set_option maxRecDepth 20000 in
theorem ggX3_balanced_X3_isIn : GoodIn wsX3_balanced wsX3_isIn := goodIn_r _ [8, 9, 10, 11, 7, 12, 2, 13, 42, 43, 44, 45, 46, 47, 48, 49, 50, 51, 52] (by decide +kernel) (by decide +kernel)
set_option maxRecDepth 20000 in
theorem gX3_balanced_X3_isIn : GoodIn wsX3_balanced (wsV RX3 53 RX3 yX3_isIn wsX3_isIn) := goodIn_app (goodIn_of _ (by decide +kernel)) ggX3_balanced_X3_isIn
set_option maxRecDepth 20000 in
theorem ggX3_balanced_X3_move : GoodIn wsX3_balanced wsX3_move := goodIn_r _ [17, 18, 19, 20, 7, 21, 2, 13, 9, 10, 11, 12, 22, 23, 24, 25, 42, 43, 44, 45, 46, 47, 48, 49, 50, 51, 52] (by decide +kernel) (by decide +kernel)
set_option maxRecDepth 20000 in
theorem gX3_balanced_X3_move : GoodIn wsX3_balanced (wsV RX3 57 RX3 yX3_move wsX3_move) := goodIn_app (goodIn_of _ (by decide +kernel)) ggX3_balanced_X3_move
set_option maxRecDepth 20000 in
theorem ggX3_balanced_X3_back : GoodIn wsX3_balanced wsX3_back := goodIn_r _ [29, 2, 30, 1, 31, 32, 7, 33, 34, 35, 36, 37, 3, 38, 39, 40, 41, 13, 22, 23, 24, 25, 14, 15, 16, 17, 18, 19, 20, 21, 9, 10, 11, 12, 42, 43, 44, 45, 46, 47, 48, 49, 50, 51, 52] (by decide +kernel) (by decide +kernel)
set_option maxRecDepth 20000 in
theorem gX3_balanced_X3_back : GoodIn wsX3_balanced (wsV RX3 82 RX3 yX3_back wsX3_back) := goodIn_app (goodIn_of _ (by decide +kernel)) ggX3_balanced_X3_back
set_option maxRecDepth 20000 in
theorem ggX3_balanced_X3_putOut : GoodIn wsX3_balanced wsX3_putOut := goodIn_r _ [37, 2, 30, 3, 38, 39, 40, 7, 41, 13, 22, 23, 24, 25, 42, 43, 44, 45, 46, 47, 48, 49, 50, 51, 52] (by decide +kernel) (by decide +kernel)
set_option maxRecDepth 20000 in
theorem gX3_balanced_X3_putOut : GoodIn wsX3_balanced (wsV RX3 78 RX3 yX3_putOut wsX3_putOut) := goodIn_app (goodIn_of _ (by decide +kernel)) ggX3_balanced_X3_putOut
set_option maxRecDepth 20000 in
theorem ggX3_balanced_X3_cutTail : GoodIn wsX3_balanced wsX3_cutTail := goodIn_r _ [41, 2, 13, 42, 43, 44, 45, 46, 47, 48, 49, 50, 51, 52] (by decide +kernel) (by decide +kernel)
set_option maxRecDepth 20000 in
theorem gX3_balanced_X3_cutTail : GoodIn wsX3_balanced (wsV RX3 61 RX3 yX3_cutTail wsX3_cutTail) := goodIn_app (goodIn_of _ (by decide +kernel)) ggX3_balanced_X3_cutTail
set_option maxRecDepth 20000 in
theorem ggX3_balanced_X3_toHead : GoodIn wsX3_balanced wsX3_toHead := goodIn_r _ [25, 2, 13, 42, 43, 44, 45, 46, 47, 48, 49, 50, 51, 52] (by decide +kernel) (by decide +kernel)
set_option maxRecDepth 20000 in
theorem gX3_balanced_X3_toHead : GoodIn wsX3_balanced (wsV RX3 50 RX3 yX3_toHead wsX3_toHead) := goodIn_app (goodIn_of _ (by decide +kernel)) ggX3_balanced_X3_toHead
theorem dX3_balanced_0 : decode cX3_balanced 0 = .ok (.iconst 4, 1) := by decide +kernel
theorem dX3_balanced_1 : decode cX3_balanced 1 = .ok (.iload_n 1, 1) := by decide +kernel
theorem dX3_balanced_2 : decode cX3_balanced 2 = .ok (.imul, 1) := by decide +kernel
theorem dX3_balanced_3 : decode cX3_balanced 3 = .ok (.istore_n 3, 1) := by decide +kernel
theorem dX3_balanced_4 : decode cX3_balanced 4 = .ok (.aload_n 0, 1) := by decide +kernel
theorem dX3_balanced_5 : decode cX3_balanced 5 = .ok (.getfield 13, 3) := by decide +kernel
theorem dX3_balanced_8 : decode cX3_balanced 8 = .ok (.iload_n 1, 1) := by decide +kernel
theorem dX3_balanced_9 : decode cX3_balanced 9 = .ok (.iaload, 1) := by decide +kernel
theorem dX3_balanced_10 : decode cX3_balanced 10 = .ok (.istore 4, 2) := by decide +kernel
theorem dX3_balanced_12 : decode cX3_balanced 12 = .ok (.aload_n 0, 1) := by decide +kernel
theorem dX3_balanced_13 : decode cX3_balanced 13 = .ok (.iload_n 3, 1) := by decide +kernel
theorem dX3_balanced_14 : decode cX3_balanced 14 = .ok (.iload_n 2, 1) := by decide +kernel
theorem dX3_balanced_15 : decode cX3_balanced 15 = .ok (.invokevirtual 53, 3) := by decide +kernel
theorem dX3_balanced_18 : decode cX3_balanced 18 = .ok (.ifCond .ne 14, 3) := by decide +kernel
theorem dX3_balanced_21 : decode cX3_balanced 21 = .ok (.aload_n 0, 1) := by decide +kernel
theorem dX3_balanced_22 : decode cX3_balanced 22 = .ok (.iload_n 3, 1) := by decide +kernel
theorem dX3_balanced_23 : decode cX3_balanced 23 = .ok (.iconst 1, 1) := by decide +kernel
theorem dX3_balanced_24 : decode cX3_balanced 24 = .ok (.iadd, 1) := by decide +kernel
theorem dX3_balanced_25 : decode cX3_balanced 25 = .ok (.iload_n 2, 1) := by decide +kernel
theorem dX3_balanced_26 : decode cX3_balanced 26 = .ok (.invokevirtual 53, 3) := by decide +kernel
theorem dX3_balanced_29 : decode cX3_balanced 29 = .ok (.ifCond .eq 29, 3) := by decide +kernel
theorem dX3_balanced_32 : decode cX3_balanced 32 = .ok (.aload_n 0, 1) := by decide +kernel
theorem dX3_balanced_33 : decode cX3_balanced 33 = .ok (.aload_n 0, 1) := by decide +kernel
theorem dX3_balanced_34 : decode cX3_balanced 34 = .ok (.iload_n 3, 1) := by decide +kernel
theorem dX3_balanced_35 : decode cX3_balanced 35 = .ok (.iload_n 2, 1) := by decide +kernel
theorem dX3_balanced_36 : decode cX3_balanced 36 = .ok (.invokevirtual 53, 3) := by decide +kernel
theorem dX3_balanced_39 : decode cX3_balanced 39 = .ok (.ifCond .eq 7, 3) := by decide +kernel
theorem dX3_balanced_42 : decode cX3_balanced 42 = .ok (.iload_n 3, 1) := by decide +kernel
theorem dX3_balanced_43 : decode cX3_balanced 43 = .ok (.goto 6, 3) := by decide +kernel
theorem dX3_balanced_46 : decode cX3_balanced 46 = .ok (.iload_n 3, 1) := by decide +kernel
theorem dX3_balanced_47 : decode cX3_balanced 47 = .ok (.iconst 1, 1) := by decide +kernel
theorem dX3_balanced_48 : decode cX3_balanced 48 = .ok (.iadd, 1) := by decide +kernel
theorem dX3_balanced_49 : decode cX3_balanced 49 = .ok (.iload_n 3, 1) := by decide +kernel
theorem dX3_balanced_50 : decode cX3_balanced 50 = .ok (.iconst 1, 1) := by decide +kernel
theorem dX3_balanced_51 : decode cX3_balanced 51 = .ok (.iadd, 1) := by decide +kernel
theorem dX3_balanced_52 : decode cX3_balanced 52 = .ok (.iload_n 2, 1) := by decide +kernel
theorem dX3_balanced_53 : decode cX3_balanced 53 = .ok (.invokevirtual 57, 3) := by decide +kernel
theorem dX3_balanced_56 : decode cX3_balanced 56 = .ok (.iconst 1, 1) := by decide +kernel
theorem dX3_balanced_57 : decode cX3_balanced 57 = .ok (.ireturn, 1) := by decide +kernel
theorem dX3_balanced_58 : decode cX3_balanced 58 = .ok (.aload_n 0, 1) := by decide +kernel
theorem dX3_balanced_59 : decode cX3_balanced 59 = .ok (.iload_n 3, 1) := by decide +kernel
theorem dX3_balanced_60 : decode cX3_balanced 60 = .ok (.iconst 2, 1) := by decide +kernel
theorem dX3_balanced_61 : decode cX3_balanced 61 = .ok (.iadd, 1) := by decide +kernel
theorem dX3_balanced_62 : decode cX3_balanced 62 = .ok (.iload_n 2, 1) := by decide +kernel
theorem dX3_balanced_63 : decode cX3_balanced 63 = .ok (.invokevirtual 53, 3) := by decide +kernel
theorem dX3_balanced_66 : decode cX3_balanced 66 = .ok (.ifCond .ne 14, 3) := by decide +kernel
theorem dX3_balanced_69 : decode cX3_balanced 69 = .ok (.aload_n 0, 1) := by decide +kernel
theorem dX3_balanced_70 : decode cX3_balanced 70 = .ok (.iload_n 3, 1) := by decide +kernel
theorem dX3_balanced_71 : decode cX3_balanced 71 = .ok (.iconst 3, 1) := by decide +kernel
theorem dX3_balanced_72 : decode cX3_balanced 72 = .ok (.iadd, 1) := by decide +kernel
theorem dX3_balanced_73 : decode cX3_balanced 73 = .ok (.iload_n 2, 1) := by decide +kernel
theorem dX3_balanced_74 : decode cX3_balanced 74 = .ok (.invokevirtual 53, 3) := by decide +kernel
theorem dX3_balanced_77 : decode cX3_balanced 77 = .ok (.ifCond .eq 19, 3) := by decide +kernel
theorem dX3_balanced_80 : decode cX3_balanced 80 = .ok (.aload_n 0, 1) := by decide +kernel
theorem dX3_balanced_81 : decode cX3_balanced 81 = .ok (.iload_n 1, 1) := by decide +kernel
theorem dX3_balanced_82 : decode cX3_balanced 82 = .ok (.iload_n 2, 1) := by decide +kernel
theorem dX3_balanced_83 : decode cX3_balanced 83 = .ok (.aload_n 0, 1) := by decide +kernel
theorem dX3_balanced_84 : decode cX3_balanced 84 = .ok (.iload_n 3, 1) := by decide +kernel
theorem dX3_balanced_85 : decode cX3_balanced 85 = .ok (.iconst 2, 1) := by decide +kernel
theorem dX3_balanced_86 : decode cX3_balanced 86 = .ok (.iadd, 1) := by decide +kernel
theorem dX3_balanced_87 : decode cX3_balanced 87 = .ok (.iload_n 2, 1) := by decide +kernel
theorem dX3_balanced_88 : decode cX3_balanced 88 = .ok (.invokevirtual 53, 3) := by decide +kernel
theorem dX3_balanced_91 : decode cX3_balanced 91 = .ok (.invokevirtual 82, 3) := by decide +kernel
theorem dX3_balanced_94 : decode cX3_balanced 94 = .ok (.iconst 0, 1) := by decide +kernel
theorem dX3_balanced_95 : decode cX3_balanced 95 = .ok (.ireturn, 1) := by decide +kernel
theorem dX3_balanced_96 : decode cX3_balanced 96 = .ok (.aload_n 0, 1) := by decide +kernel
theorem dX3_balanced_97 : decode cX3_balanced 97 = .ok (.getfield 19, 3) := by decide +kernel
theorem dX3_balanced_100 : decode cX3_balanced 100 = .ok (.iload_n 3, 1) := by decide +kernel
theorem dX3_balanced_101 : decode cX3_balanced 101 = .ok (.iaload, 1) := by decide +kernel
theorem dX3_balanced_102 : decode cX3_balanced 102 = .ok (.aload_n 0, 1) := by decide +kernel
theorem dX3_balanced_103 : decode cX3_balanced 103 = .ok (.getfield 19, 3) := by decide +kernel
theorem dX3_balanced_106 : decode cX3_balanced 106 = .ok (.iload_n 3, 1) := by decide +kernel
theorem dX3_balanced_107 : decode cX3_balanced 107 = .ok (.iconst 2, 1) := by decide +kernel
theorem dX3_balanced_108 : decode cX3_balanced 108 = .ok (.iadd, 1) := by decide +kernel
theorem dX3_balanced_109 : decode cX3_balanced 109 = .ok (.iaload, 1) := by decide +kernel
theorem dX3_balanced_110 : decode cX3_balanced 110 = .ok (.iadd, 1) := by decide +kernel
theorem dX3_balanced_111 : decode cX3_balanced 111 = .ok (.istore 5, 2) := by decide +kernel
theorem dX3_balanced_113 : decode cX3_balanced 113 = .ok (.iload 5, 2) := by decide +kernel
theorem dX3_balanced_115 : decode cX3_balanced 115 = .ok (.aload_n 0, 1) := by decide +kernel
theorem dX3_balanced_116 : decode cX3_balanced 116 = .ok (.getfield 19, 3) := by decide +kernel
theorem dX3_balanced_119 : decode cX3_balanced 119 = .ok (.iload_n 3, 1) := by decide +kernel
theorem dX3_balanced_120 : decode cX3_balanced 120 = .ok (.iconst 1, 1) := by decide +kernel
theorem dX3_balanced_121 : decode cX3_balanced 121 = .ok (.iadd, 1) := by decide +kernel
theorem dX3_balanced_122 : decode cX3_balanced 122 = .ok (.iaload, 1) := by decide +kernel
theorem dX3_balanced_123 : decode cX3_balanced 123 = .ok (.iadd, 1) := by decide +kernel
theorem dX3_balanced_124 : decode cX3_balanced 124 = .ok (.aload_n 0, 1) := by decide +kernel
theorem dX3_balanced_125 : decode cX3_balanced 125 = .ok (.getfield 19, 3) := by decide +kernel
theorem dX3_balanced_128 : decode cX3_balanced 128 = .ok (.iload_n 3, 1) := by decide +kernel
theorem dX3_balanced_129 : decode cX3_balanced 129 = .ok (.iconst 3, 1) := by decide +kernel
theorem dX3_balanced_130 : decode cX3_balanced 130 = .ok (.iadd, 1) := by decide +kernel
theorem dX3_balanced_131 : decode cX3_balanced 131 = .ok (.iaload, 1) := by decide +kernel
theorem dX3_balanced_132 : decode cX3_balanced 132 = .ok (.iadd, 1) := by decide +kernel
theorem dX3_balanced_133 : decode cX3_balanced 133 = .ok (.istore 6, 2) := by decide +kernel
theorem dX3_balanced_135 : decode cX3_balanced 135 = .ok (.iload 5, 2) := by decide +kernel
theorem dX3_balanced_137 : decode cX3_balanced 137 = .ok (.iload 4, 2) := by decide +kernel
theorem dX3_balanced_139 : decode cX3_balanced 139 = .ok (.if_icmp .ne 53, 3) := by decide +kernel
theorem dX3_balanced_142 : decode cX3_balanced 142 = .ok (.aload_n 0, 1) := by decide +kernel
theorem dX3_balanced_143 : decode cX3_balanced 143 = .ok (.getfield 19, 3) := by decide +kernel
theorem dX3_balanced_146 : decode cX3_balanced 146 = .ok (.iload_n 3, 1) := by decide +kernel
theorem dX3_balanced_147 : decode cX3_balanced 147 = .ok (.iaload, 1) := by decide +kernel
theorem dX3_balanced_148 : decode cX3_balanced 148 = .ok (.iload 4, 2) := by decide +kernel
theorem dX3_balanced_150 : decode cX3_balanced 150 = .ok (.if_icmp .ge 30, 3) := by decide +kernel
theorem dX3_balanced_153 : decode cX3_balanced 153 = .ok (.aload_n 0, 1) := by decide +kernel
theorem dX3_balanced_154 : decode cX3_balanced 154 = .ok (.getfield 19, 3) := by decide +kernel
theorem dX3_balanced_157 : decode cX3_balanced 157 = .ok (.iload_n 3, 1) := by decide +kernel
theorem dX3_balanced_158 : decode cX3_balanced 158 = .ok (.iconst 2, 1) := by decide +kernel
theorem dX3_balanced_159 : decode cX3_balanced 159 = .ok (.iadd, 1) := by decide +kernel
theorem dX3_balanced_160 : decode cX3_balanced 160 = .ok (.aload_n 0, 1) := by decide +kernel
theorem dX3_balanced_161 : decode cX3_balanced 161 = .ok (.getfield 19, 3) := by decide +kernel
theorem dX3_balanced_164 : decode cX3_balanced 164 = .ok (.iload_n 3, 1) := by decide +kernel
theorem dX3_balanced_165 : decode cX3_balanced 165 = .ok (.iconst 2, 1) := by decide +kernel
theorem dX3_balanced_166 : decode cX3_balanced 166 = .ok (.iadd, 1) := by decide +kernel
theorem dX3_balanced_167 : decode cX3_balanced 167 = .ok (.iaload, 1) := by decide +kernel
theorem dX3_balanced_168 : decode cX3_balanced 168 = .ok (.iconst 1, 1) := by decide +kernel
theorem dX3_balanced_169 : decode cX3_balanced 169 = .ok (.isub, 1) := by decide +kernel
theorem dX3_balanced_170 : decode cX3_balanced 170 = .ok (.iastore, 1) := by decide +kernel
theorem dX3_balanced_171 : decode cX3_balanced 171 = .ok (.aload_n 0, 1) := by decide +kernel
theorem dX3_balanced_172 : decode cX3_balanced 172 = .ok (.iload_n 1, 1) := by decide +kernel
theorem dX3_balanced_173 : decode cX3_balanced 173 = .ok (.iconst 0, 1) := by decide +kernel
theorem dX3_balanced_174 : decode cX3_balanced 174 = .ok (.invokevirtual 78, 3) := by decide +kernel
theorem dX3_balanced_177 : decode cX3_balanced 177 = .ok (.goto 66, 3) := by decide +kernel
theorem dX3_balanced_180 : decode cX3_balanced 180 = .ok (.aload_n 0, 1) := by decide +kernel
theorem dX3_balanced_181 : decode cX3_balanced 181 = .ok (.aload_n 0, 1) := by decide +kernel
theorem dX3_balanced_182 : decode cX3_balanced 182 = .ok (.iload_n 3, 1) := by decide +kernel
theorem dX3_balanced_183 : decode cX3_balanced 183 = .ok (.invokevirtual 61, 3) := by decide +kernel
theorem dX3_balanced_186 : decode cX3_balanced 186 = .ok (.putfield 65, 3) := by decide +kernel
theorem dX3_balanced_189 : decode cX3_balanced 189 = .ok (.goto 54, 3) := by decide +kernel
theorem dX3_balanced_192 : decode cX3_balanced 192 = .ok (.iload 6, 2) := by decide +kernel
theorem dX3_balanced_194 : decode cX3_balanced 194 = .ok (.iload 4, 2) := by decide +kernel
theorem dX3_balanced_196 : decode cX3_balanced 196 = .ok (.if_icmp .lt 47, 3) := by decide +kernel
theorem dX3_balanced_199 : decode cX3_balanced 199 = .ok (.aload_n 0, 1) := by decide +kernel
theorem dX3_balanced_200 : decode cX3_balanced 200 = .ok (.getfield 19, 3) := by decide +kernel
theorem dX3_balanced_203 : decode cX3_balanced 203 = .ok (.iload_n 3, 1) := by decide +kernel
theorem dX3_balanced_204 : decode cX3_balanced 204 = .ok (.iconst 3, 1) := by decide +kernel
theorem dX3_balanced_205 : decode cX3_balanced 205 = .ok (.iadd, 1) := by decide +kernel
theorem dX3_balanced_206 : decode cX3_balanced 206 = .ok (.iload 6, 2) := by decide +kernel
theorem dX3_balanced_208 : decode cX3_balanced 208 = .ok (.iconst 2, 1) := by decide +kernel
theorem dX3_balanced_209 : decode cX3_balanced 209 = .ok (.iload 4, 2) := by decide +kernel
theorem dX3_balanced_211 : decode cX3_balanced 211 = .ok (.imul, 1) := by decide +kernel
theorem dX3_balanced_212 : decode cX3_balanced 212 = .ok (.if_icmp .ne 16, 3) := by decide +kernel
theorem dX3_balanced_215 : decode cX3_balanced 215 = .ok (.aload_n 0, 1) := by decide +kernel
theorem dX3_balanced_216 : decode cX3_balanced 216 = .ok (.getfield 19, 3) := by decide +kernel
theorem dX3_balanced_219 : decode cX3_balanced 219 = .ok (.iload_n 3, 1) := by decide +kernel
theorem dX3_balanced_220 : decode cX3_balanced 220 = .ok (.iconst 3, 1) := by decide +kernel
theorem dX3_balanced_221 : decode cX3_balanced 221 = .ok (.iadd, 1) := by decide +kernel
theorem dX3_balanced_222 : decode cX3_balanced 222 = .ok (.iaload, 1) := by decide +kernel
theorem dX3_balanced_223 : decode cX3_balanced 223 = .ok (.iconst 1, 1) := by decide +kernel
theorem dX3_balanced_224 : decode cX3_balanced 224 = .ok (.isub, 1) := by decide +kernel
theorem dX3_balanced_225 : decode cX3_balanced 225 = .ok (.goto 11, 3) := by decide +kernel
theorem dX3_balanced_228 : decode cX3_balanced 228 = .ok (.aload_n 0, 1) := by decide +kernel
theorem dX3_balanced_229 : decode cX3_balanced 229 = .ok (.getfield 19, 3) := by decide +kernel
theorem dX3_balanced_232 : decode cX3_balanced 232 = .ok (.iload_n 3, 1) := by decide +kernel
theorem dX3_balanced_233 : decode cX3_balanced 233 = .ok (.iconst 3, 1) := by decide +kernel
theorem dX3_balanced_234 : decode cX3_balanced 234 = .ok (.iadd, 1) := by decide +kernel
theorem dX3_balanced_235 : decode cX3_balanced 235 = .ok (.iaload, 1) := by decide +kernel
theorem dX3_balanced_236 : decode cX3_balanced 236 = .ok (.iastore, 1) := by decide +kernel
theorem dX3_balanced_237 : decode cX3_balanced 237 = .ok (.aload_n 0, 1) := by decide +kernel
theorem dX3_balanced_238 : decode cX3_balanced 238 = .ok (.iload_n 1, 1) := by decide +kernel
theorem dX3_balanced_239 : decode cX3_balanced 239 = .ok (.iconst 0, 1) := by decide +kernel
theorem dX3_balanced_240 : decode cX3_balanced 240 = .ok (.invokevirtual 78, 3) := by decide +kernel
theorem dX3_balanced_243 : decode cX3_balanced 243 = .ok (.aload_n 0, 1) := by decide +kernel
theorem dX3_balanced_244 : decode cX3_balanced 244 = .ok (.iload_n 3, 1) := by decide +kernel
theorem dX3_balanced_245 : decode cX3_balanced 245 = .ok (.iload_n 2, 1) := by decide +kernel
theorem dX3_balanced_246 : decode cX3_balanced 246 = .ok (.invokevirtual 50, 3) := by decide +kernel
theorem dX3_balanced_249 : decode cX3_balanced 249 = .ok (.iconst 0, 1) := by decide +kernel
theorem dX3_balanced_250 : decode cX3_balanced 250 = .ok (.ireturn, 1) := by decide +kernel
set_option maxRecDepth 20000 in
theorem ggX3_touch_X3_recent : GoodIn wsX3_touch wsX3_recent := goodIn_r _ [8, 9, 10, 1, 11, 12, 13, 7, 14, 15, 16, 17, 18, 19, 20, 21, 22, 23, 24, 25, 26, 27, 28, 29, 30, 31, 32, 33, 34, 35, 69, 70, 71, 72, 73, 74, 75, 76, 77, 78, 79] (by decide +kernel) (by decide +kernel)
set_option maxRecDepth 20000 in
theorem gX3_touch_X3_recent : GoodIn wsX3_touch (wsV RX3 86 RX3 yX3_recent wsX3_recent) := goodIn_app (goodIn_of _ (by decide +kernel)) ggX3_touch_X3_recent
set_option maxRecDepth 20000 in
theorem ggX3_touch_X3_clock : GoodIn wsX3_touch wsX3_clock := goodIn_r _ [39, 40, 9, 10, 19, 1, 11, 12, 13, 7, 14, 15, 16, 17, 18, 24, 25, 26, 27, 41, 42, 43, 44, 69, 70, 71, 72, 73, 74, 75, 76, 77, 78, 79] (by decide +kernel) (by decide +kernel)
set_option maxRecDepth 20000 in
theorem gX3_touch_X3_clock : GoodIn wsX3_touch (wsV RX3 89 RX3 yX3_clock wsX3_clock) := goodIn_app (goodIn_of _ (by decide +kernel)) ggX3_touch_X3_clock
set_option maxRecDepth 20000 in
theorem ggX3_touch_X3_queues : GoodIn wsX3_touch wsX3_queues := goodIn_r _ [48, 11, 12, 13, 7, 14, 15, 16, 17, 18, 9, 19, 20, 21, 22, 23, 24, 25, 26, 27, 28, 29, 30, 31, 49, 50, 51, 52, 10, 1, 32, 33, 34, 35, 69, 70, 71, 72, 73, 74, 75, 76, 77, 78, 79] (by decide +kernel) (by decide +kernel)
set_option maxRecDepth 20000 in
theorem gX3_touch_X3_queues : GoodIn wsX3_touch (wsV RX3 92 RX3 yX3_queues wsX3_queues) := goodIn_app (goodIn_of _ (by decide +kernel)) ggX3_touch_X3_queues
set_option maxRecDepth 20000 in
theorem ggX3_touch_X3_balanced : GoodIn wsX3_touch wsX3_balanced := goodIn_r _ [56, 10, 9, 1, 11, 12, 13, 7, 14, 15, 16, 17, 18, 19, 20, 21, 22, 23, 24, 25, 26, 27, 28, 29, 30, 31, 57, 58, 59, 60, 61, 62, 63, 64, 65, 66, 67, 68, 32, 33, 34, 35, 69, 70, 71, 72, 73, 74, 75, 76, 77, 78, 79] (by decide +kernel) (by decide +kernel)
set_option maxRecDepth 20000 in
theorem gX3_touch_X3_balanced : GoodIn wsX3_touch (wsV RX3 95 RX3 yX3_balanced wsX3_balanced) := goodIn_app (goodIn_of _ (by decide +kernel)) ggX3_touch_X3_balanced
theorem dX3_touch_0 : decode cX3_touch 0 = .ok (.aload_n 0, 1) := by decide +kernel
theorem dX3_touch_1 : decode cX3_touch 1 = .ok (.iconst (-1), 1) := by decide +kernel
theorem dX3_touch_2 : decode cX3_touch 2 = .ok (.putfield 65, 3) := by decide +kernel
theorem dX3_touch_5 : decode cX3_touch 5 = .ok (.aload_n 0, 1) := by decide +kernel
theorem dX3_touch_6 : decode cX3_touch 6 = .ok (.getfield 7, 3) := by decide +kernel
theorem dX3_touch_9 : decode cX3_touch 9 = .ok (.iload_n 1, 1) := by decide +kernel
theorem dX3_touch_10 : decode cX3_touch 10 = .ok (.iaload, 1) := by decide +kernel
theorem dX3_touch_11 : decode cX3_touch 11 = .ok (.ifCond .ne 12, 3) := by decide +kernel
theorem dX3_touch_14 : decode cX3_touch 14 = .ok (.aload_n 0, 1) := by decide +kernel
theorem dX3_touch_15 : decode cX3_touch 15 = .ok (.iload_n 1, 1) := by decide +kernel
theorem dX3_touch_16 : decode cX3_touch 16 = .ok (.iload_n 2, 1) := by decide +kernel
theorem dX3_touch_17 : decode cX3_touch 17 = .ok (.invokevirtual 86, 3) := by decide +kernel
theorem dX3_touch_20 : decode cX3_touch 20 = .ok (.goto 47, 3) := by decide +kernel
theorem dX3_touch_23 : decode cX3_touch 23 = .ok (.aload_n 0, 1) := by decide +kernel
theorem dX3_touch_24 : decode cX3_touch 24 = .ok (.getfield 7, 3) := by decide +kernel
theorem dX3_touch_27 : decode cX3_touch 27 = .ok (.iload_n 1, 1) := by decide +kernel
theorem dX3_touch_28 : decode cX3_touch 28 = .ok (.iaload, 1) := by decide +kernel
theorem dX3_touch_29 : decode cX3_touch 29 = .ok (.iconst 1, 1) := by decide +kernel
theorem dX3_touch_30 : decode cX3_touch 30 = .ok (.if_icmp .ne 12, 3) := by decide +kernel
theorem dX3_touch_33 : decode cX3_touch 33 = .ok (.aload_n 0, 1) := by decide +kernel
theorem dX3_touch_34 : decode cX3_touch 34 = .ok (.iload_n 1, 1) := by decide +kernel
theorem dX3_touch_35 : decode cX3_touch 35 = .ok (.iload_n 2, 1) := by decide +kernel
theorem dX3_touch_36 : decode cX3_touch 36 = .ok (.invokevirtual 89, 3) := by decide +kernel
theorem dX3_touch_39 : decode cX3_touch 39 = .ok (.goto 28, 3) := by decide +kernel
theorem dX3_touch_42 : decode cX3_touch 42 = .ok (.aload_n 0, 1) := by decide +kernel
theorem dX3_touch_43 : decode cX3_touch 43 = .ok (.getfield 7, 3) := by decide +kernel
theorem dX3_touch_46 : decode cX3_touch 46 = .ok (.iload_n 1, 1) := by decide +kernel
theorem dX3_touch_47 : decode cX3_touch 47 = .ok (.iaload, 1) := by decide +kernel
theorem dX3_touch_48 : decode cX3_touch 48 = .ok (.iconst 2, 1) := by decide +kernel
theorem dX3_touch_49 : decode cX3_touch 49 = .ok (.if_icmp .ne 12, 3) := by decide +kernel
theorem dX3_touch_52 : decode cX3_touch 52 = .ok (.aload_n 0, 1) := by decide +kernel
theorem dX3_touch_53 : decode cX3_touch 53 = .ok (.iload_n 1, 1) := by decide +kernel
theorem dX3_touch_54 : decode cX3_touch 54 = .ok (.iload_n 2, 1) := by decide +kernel
theorem dX3_touch_55 : decode cX3_touch 55 = .ok (.invokevirtual 92, 3) := by decide +kernel
theorem dX3_touch_58 : decode cX3_touch 58 = .ok (.goto 9, 3) := by decide +kernel
theorem dX3_touch_61 : decode cX3_touch 61 = .ok (.aload_n 0, 1) := by decide +kernel
theorem dX3_touch_62 : decode cX3_touch 62 = .ok (.iload_n 1, 1) := by decide +kernel
theorem dX3_touch_63 : decode cX3_touch 63 = .ok (.iload_n 2, 1) := by decide +kernel
theorem dX3_touch_64 : decode cX3_touch 64 = .ok (.invokevirtual 95, 3) := by decide +kernel
theorem dX3_touch_67 : decode cX3_touch 67 = .ok (.istore_n 3, 1) := by decide +kernel
theorem dX3_touch_68 : decode cX3_touch 68 = .ok (.iload_n 3, 1) := by decide +kernel
theorem dX3_touch_69 : decode cX3_touch 69 = .ok (.ifCond .eq 9, 3) := by decide +kernel
theorem dX3_touch_72 : decode cX3_touch 72 = .ok (.iconst 3, 1) := by decide +kernel
theorem dX3_touch_73 : decode cX3_touch 73 = .ok (.iload_n 1, 1) := by decide +kernel
theorem dX3_touch_74 : decode cX3_touch 74 = .ok (.imul, 1) := by decide +kernel
theorem dX3_touch_75 : decode cX3_touch 75 = .ok (.goto 8, 3) := by decide +kernel
theorem dX3_touch_78 : decode cX3_touch 78 = .ok (.iconst 3, 1) := by decide +kernel
theorem dX3_touch_79 : decode cX3_touch 79 = .ok (.iload_n 1, 1) := by decide +kernel
theorem dX3_touch_80 : decode cX3_touch 80 = .ok (.imul, 1) := by decide +kernel
theorem dX3_touch_81 : decode cX3_touch 81 = .ok (.iconst 1, 1) := by decide +kernel
theorem dX3_touch_82 : decode cX3_touch 82 = .ok (.iadd, 1) := by decide +kernel
theorem dX3_touch_83 : decode cX3_touch 83 = .ok (.istore 4, 2) := by decide +kernel
theorem dX3_touch_85 : decode cX3_touch 85 = .ok (.aload_n 0, 1) := by decide +kernel
theorem dX3_touch_86 : decode cX3_touch 86 = .ok (.getfield 32, 3) := by decide +kernel
theorem dX3_touch_89 : decode cX3_touch 89 = .ok (.iload 4, 2) := by decide +kernel
theorem dX3_touch_91 : decode cX3_touch 91 = .ok (.aload_n 0, 1) := by decide +kernel
theorem dX3_touch_92 : decode cX3_touch 92 = .ok (.getfield 32, 3) := by decide +kernel
theorem dX3_touch_95 : decode cX3_touch 95 = .ok (.iload 4, 2) := by decide +kernel
theorem dX3_touch_97 : decode cX3_touch 97 = .ok (.iaload, 1) := by decide +kernel
theorem dX3_touch_98 : decode cX3_touch 98 = .ok (.iconst 1, 1) := by decide +kernel
theorem dX3_touch_99 : decode cX3_touch 99 = .ok (.iadd, 1) := by decide +kernel
theorem dX3_touch_100 : decode cX3_touch 100 = .ok (.iastore, 1) := by decide +kernel
theorem dX3_touch_101 : decode cX3_touch 101 = .ok (.iload_n 3, 1) := by decide +kernel
theorem dX3_touch_102 : decode cX3_touch 102 = .ok (.ireturn, 1) := by decide +kernel
theorem dX3_dries_0 : decode cX3_dries 0 = .ok (.iload_n 2, 1) := by decide +kernel
theorem dX3_dries_1 : decode cX3_dries 1 = .ok (.ifCond .lt 21, 3) := by decide +kernel
theorem dX3_dries_4 : decode cX3_dries 4 = .ok (.aload_n 0, 1) := by decide +kernel
theorem dX3_dries_5 : decode cX3_dries 5 = .ok (.getfield 29, 3) := by decide +kernel
theorem dX3_dries_8 : decode cX3_dries 8 = .ok (.bipush 64, 2) := by decide +kernel
theorem dX3_dries_10 : decode cX3_dries 10 = .ok (.iload_n 1, 1) := by decide +kernel
theorem dX3_dries_11 : decode cX3_dries 11 = .ok (.imul, 1) := by decide +kernel
theorem dX3_dries_12 : decode cX3_dries 12 = .ok (.iload_n 2, 1) := by decide +kernel
theorem dX3_dries_13 : decode cX3_dries 13 = .ok (.iadd, 1) := by decide +kernel
theorem dX3_dries_14 : decode cX3_dries 14 = .ok (.baload, 1) := by decide +kernel
theorem dX3_dries_15 : decode cX3_dries 15 = .ok (.ifCond .eq 7, 3) := by decide +kernel
theorem dX3_dries_18 : decode cX3_dries 18 = .ok (.iconst 1, 1) := by decide +kernel
theorem dX3_dries_19 : decode cX3_dries 19 = .ok (.goto 4, 3) := by decide +kernel
theorem dX3_dries_22 : decode cX3_dries 22 = .ok (.iconst 0, 1) := by decide +kernel
theorem dX3_dries_23 : decode cX3_dries 23 = .ok (.istore_n 3, 1) := by decide +kernel
theorem dX3_dries_24 : decode cX3_dries 24 = .ok (.iload_n 3, 1) := by decide +kernel
theorem dX3_dries_25 : decode cX3_dries 25 = .ok (.ifCond .eq 37, 3) := by decide +kernel
theorem dX3_dries_28 : decode cX3_dries 28 = .ok (.aload_n 0, 1) := by decide +kernel
theorem dX3_dries_29 : decode cX3_dries 29 = .ok (.getfield 29, 3) := by decide +kernel
theorem dX3_dries_32 : decode cX3_dries 32 = .ok (.bipush 64, 2) := by decide +kernel
theorem dX3_dries_34 : decode cX3_dries 34 = .ok (.iload_n 1, 1) := by decide +kernel
theorem dX3_dries_35 : decode cX3_dries 35 = .ok (.imul, 1) := by decide +kernel
theorem dX3_dries_36 : decode cX3_dries 36 = .ok (.iload_n 2, 1) := by decide +kernel
theorem dX3_dries_37 : decode cX3_dries 37 = .ok (.iadd, 1) := by decide +kernel
theorem dX3_dries_38 : decode cX3_dries 38 = .ok (.iconst 0, 1) := by decide +kernel
theorem dX3_dries_39 : decode cX3_dries 39 = .ok (.bastore, 1) := by decide +kernel
theorem dX3_dries_40 : decode cX3_dries 40 = .ok (.aload_n 0, 1) := by decide +kernel
theorem dX3_dries_41 : decode cX3_dries 41 = .ok (.getfield 32, 3) := by decide +kernel
theorem dX3_dries_44 : decode cX3_dries 44 = .ok (.iconst 3, 1) := by decide +kernel
theorem dX3_dries_45 : decode cX3_dries 45 = .ok (.iload_n 1, 1) := by decide +kernel
theorem dX3_dries_46 : decode cX3_dries 46 = .ok (.imul, 1) := by decide +kernel
theorem dX3_dries_47 : decode cX3_dries 47 = .ok (.iconst 2, 1) := by decide +kernel
theorem dX3_dries_48 : decode cX3_dries 48 = .ok (.iadd, 1) := by decide +kernel
theorem dX3_dries_49 : decode cX3_dries 49 = .ok (.aload_n 0, 1) := by decide +kernel
theorem dX3_dries_50 : decode cX3_dries 50 = .ok (.getfield 32, 3) := by decide +kernel
theorem dX3_dries_53 : decode cX3_dries 53 = .ok (.iconst 3, 1) := by decide +kernel
theorem dX3_dries_54 : decode cX3_dries 54 = .ok (.iload_n 1, 1) := by decide +kernel
theorem dX3_dries_55 : decode cX3_dries 55 = .ok (.imul, 1) := by decide +kernel
theorem dX3_dries_56 : decode cX3_dries 56 = .ok (.iconst 2, 1) := by decide +kernel
theorem dX3_dries_57 : decode cX3_dries 57 = .ok (.iadd, 1) := by decide +kernel
theorem dX3_dries_58 : decode cX3_dries 58 = .ok (.iaload, 1) := by decide +kernel
theorem dX3_dries_59 : decode cX3_dries 59 = .ok (.iconst 1, 1) := by decide +kernel
theorem dX3_dries_60 : decode cX3_dries 60 = .ok (.iadd, 1) := by decide +kernel
theorem dX3_dries_61 : decode cX3_dries 61 = .ok (.iastore, 1) := by decide +kernel
theorem dX3_dries_62 : decode cX3_dries 62 = .ok (.iload_n 3, 1) := by decide +kernel
theorem dX3_dries_63 : decode cX3_dries 63 = .ok (.ireturn, 1) := by decide +kernel
set_option maxRecDepth 20000 in
theorem ggX3_askLower_X3_touch : GoodIn wsX3_askLower wsX3_touch := goodIn_r _ [9, 2, 10, 11, 12, 13, 14, 8, 15, 16, 17, 18, 19, 20, 21, 22, 23, 24, 25, 26, 27, 28, 29, 30, 31, 32, 33, 34, 35, 36, 37, 38, 39, 40, 41, 42, 43, 44, 45, 46, 47, 48, 49, 50, 51, 52, 53, 54, 55, 56, 57, 58, 59, 60, 61, 62, 63, 64, 65, 66, 67, 68, 69, 70, 71, 72, 73, 74, 75, 80, 81, 82, 83, 84, 85, 86, 87, 88, 89, 90] (by decide +kernel) (by decide +kernel)
set_option maxRecDepth 20000 in
theorem gX3_askLower_X3_touch : GoodIn wsX3_askLower (wsV RX3 98 RX3 yX3_touch wsX3_touch) := goodIn_app (goodIn_of _ (by decide +kernel)) ggX3_askLower_X3_touch
set_option maxRecDepth 20000 in
theorem ggX3_askLower_X3_dries : GoodIn wsX3_askLower wsX3_dries := goodIn_r _ [79, 4, 11, 80, 81, 82, 83, 84, 85, 86, 87, 88, 89, 90] (by decide +kernel) (by decide +kernel)
set_option maxRecDepth 20000 in
theorem gX3_askLower_X3_dries : GoodIn wsX3_askLower (wsV RX3 101 RX3 yX3_dries wsX3_dries) := goodIn_app (goodIn_of _ (by decide +kernel)) ggX3_askLower_X3_dries
theorem dX3_askLower_0 : decode cX3_askLower 0 = .ok (.aload_n 0, 1) := by decide +kernel
theorem dX3_askLower_1 : decode cX3_askLower 1 = .ok (.iconst 1, 1) := by decide +kernel
theorem dX3_askLower_2 : decode cX3_askLower 2 = .ok (.iload_n 1, 1) := by decide +kernel
theorem dX3_askLower_3 : decode cX3_askLower 3 = .ok (.invokevirtual 98, 3) := by decide +kernel
theorem dX3_askLower_6 : decode cX3_askLower 6 = .ok (.istore_n 3, 1) := by decide +kernel
theorem dX3_askLower_7 : decode cX3_askLower 7 = .ok (.aload_n 0, 1) := by decide +kernel
theorem dX3_askLower_8 : decode cX3_askLower 8 = .ok (.iload_n 3, 1) := by decide +kernel
theorem dX3_askLower_9 : decode cX3_askLower 9 = .ok (.ifCond .ne 16, 3) := by decide +kernel
theorem dX3_askLower_12 : decode cX3_askLower 12 = .ok (.iload_n 2, 1) := by decide +kernel
theorem dX3_askLower_13 : decode cX3_askLower 13 = .ok (.ifCond .ne 12, 3) := by decide +kernel
theorem dX3_askLower_16 : decode cX3_askLower 16 = .ok (.aload_n 0, 1) := by decide +kernel
theorem dX3_askLower_17 : decode cX3_askLower 17 = .ok (.getfield 35, 3) := by decide +kernel
theorem dX3_askLower_20 : decode cX3_askLower 20 = .ok (.iconst 1, 1) := by decide +kernel
theorem dX3_askLower_21 : decode cX3_askLower 21 = .ok (.iadd, 1) := by decide +kernel
theorem dX3_askLower_22 : decode cX3_askLower 22 = .ok (.goto 7, 3) := by decide +kernel
theorem dX3_askLower_25 : decode cX3_askLower 25 = .ok (.aload_n 0, 1) := by decide +kernel
theorem dX3_askLower_26 : decode cX3_askLower 26 = .ok (.getfield 35, 3) := by decide +kernel
theorem dX3_askLower_29 : decode cX3_askLower 29 = .ok (.putfield 35, 3) := by decide +kernel
theorem dX3_askLower_32 : decode cX3_askLower 32 = .ok (.aload_n 0, 1) := by decide +kernel
theorem dX3_askLower_33 : decode cX3_askLower 33 = .ok (.aload_n 0, 1) := by decide +kernel
theorem dX3_askLower_34 : decode cX3_askLower 34 = .ok (.iconst 1, 1) := by decide +kernel
theorem dX3_askLower_35 : decode cX3_askLower 35 = .ok (.aload_n 0, 1) := by decide +kernel
theorem dX3_askLower_36 : decode cX3_askLower 36 = .ok (.getfield 65, 3) := by decide +kernel
theorem dX3_askLower_39 : decode cX3_askLower 39 = .ok (.invokevirtual 101, 3) := by decide +kernel
theorem dX3_askLower_42 : decode cX3_askLower 42 = .ok (.ifCond .eq 12, 3) := by decide +kernel
theorem dX3_askLower_45 : decode cX3_askLower 45 = .ok (.aload_n 0, 1) := by decide +kernel
theorem dX3_askLower_46 : decode cX3_askLower 46 = .ok (.getfield 39, 3) := by decide +kernel
theorem dX3_askLower_49 : decode cX3_askLower 49 = .ok (.iconst 1, 1) := by decide +kernel
theorem dX3_askLower_50 : decode cX3_askLower 50 = .ok (.iadd, 1) := by decide +kernel
theorem dX3_askLower_51 : decode cX3_askLower 51 = .ok (.goto 7, 3) := by decide +kernel
theorem dX3_askLower_54 : decode cX3_askLower 54 = .ok (.aload_n 0, 1) := by decide +kernel
theorem dX3_askLower_55 : decode cX3_askLower 55 = .ok (.getfield 39, 3) := by decide +kernel
theorem dX3_askLower_58 : decode cX3_askLower 58 = .ok (.putfield 39, 3) := by decide +kernel
theorem dX3_askLower_61 : decode cX3_askLower 61 = .ok (.aload_n 0, 1) := by decide +kernel
theorem dX3_askLower_62 : decode cX3_askLower 62 = .ok (.getfield 29, 3) := by decide +kernel
theorem dX3_askLower_65 : decode cX3_askLower 65 = .ok (.bipush 64, 2) := by decide +kernel
theorem dX3_askLower_67 : decode cX3_askLower 67 = .ok (.iload_n 1, 1) := by decide +kernel
theorem dX3_askLower_68 : decode cX3_askLower 68 = .ok (.iadd, 1) := by decide +kernel
theorem dX3_askLower_69 : decode cX3_askLower 69 = .ok (.aload_n 0, 1) := by decide +kernel
theorem dX3_askLower_70 : decode cX3_askLower 70 = .ok (.getfield 29, 3) := by decide +kernel
theorem dX3_askLower_73 : decode cX3_askLower 73 = .ok (.bipush 64, 2) := by decide +kernel
theorem dX3_askLower_75 : decode cX3_askLower 75 = .ok (.iload_n 1, 1) := by decide +kernel
theorem dX3_askLower_76 : decode cX3_askLower 76 = .ok (.iadd, 1) := by decide +kernel
theorem dX3_askLower_77 : decode cX3_askLower 77 = .ok (.baload, 1) := by decide +kernel
theorem dX3_askLower_78 : decode cX3_askLower 78 = .ok (.ifCond .ne 7, 3) := by decide +kernel
theorem dX3_askLower_81 : decode cX3_askLower 81 = .ok (.iload_n 2, 1) := by decide +kernel
theorem dX3_askLower_82 : decode cX3_askLower 82 = .ok (.ifCond .eq 7, 3) := by decide +kernel
theorem dX3_askLower_85 : decode cX3_askLower 85 = .ok (.iconst 1, 1) := by decide +kernel
theorem dX3_askLower_86 : decode cX3_askLower 86 = .ok (.goto 4, 3) := by decide +kernel
theorem dX3_askLower_89 : decode cX3_askLower 89 = .ok (.iconst 0, 1) := by decide +kernel
theorem dX3_askLower_90 : decode cX3_askLower 90 = .ok (.bastore, 1) := by decide +kernel
theorem dX3_askLower_91 : decode cX3_askLower 91 = .ok (.iload_n 3, 1) := by decide +kernel
theorem dX3_askLower_92 : decode cX3_askLower 92 = .ok (.ireturn, 1) := by decide +kernel
set_option maxRecDepth 20000 in
theorem ggX3_access_X3_isPage : GoodIn wsX3_access wsX3_isPage := goodIn_r _ [6] (by decide +kernel) (by decide +kernel)
set_option maxRecDepth 20000 in
theorem gX3_access_X3_isPage : GoodIn wsX3_access (va_wsS RX3 104 yX3_isPage wsX3_isPage) := goodIn_app (goodIn_of _ (by decide +kernel)) ggX3_access_X3_isPage
set_option maxRecDepth 20000 in
theorem ggX3_access_X3_touch : GoodIn wsX3_access wsX3_touch := goodIn_r _ [10, 1, 11, 12, 13, 14, 15, 5, 16, 17, 18, 19, 20, 21, 22, 23, 24, 25, 26, 27, 28, 29, 30, 31, 32, 33, 34, 35, 36, 37, 38, 39, 40, 41, 42, 43, 44, 45, 46, 47, 48, 49, 50, 51, 52, 53, 54, 55, 56, 57, 58, 59, 60, 61, 62, 63, 64, 65, 66, 67, 68, 69, 70, 71, 72, 73, 74, 75, 76, 87, 88, 89, 90, 91, 92, 93, 94, 95, 96, 97] (by decide +kernel) (by decide +kernel)
set_option maxRecDepth 20000 in
theorem gX3_access_X3_touch : GoodIn wsX3_access (wsV RX3 98 RX3 yX3_touch wsX3_touch) := goodIn_app (goodIn_of _ (by decide +kernel)) ggX3_access_X3_touch
set_option maxRecDepth 20000 in
theorem ggX3_access_X3_askLower : GoodIn wsX3_access wsX3_askLower := goodIn_r _ [80, 81, 1, 82, 2, 7, 8, 9, 5, 10, 11, 12, 13, 14, 15, 16, 17, 18, 19, 20, 21, 22, 23, 24, 25, 26, 27, 28, 29, 30, 31, 32, 33, 34, 35, 36, 37, 38, 39, 40, 41, 42, 43, 44, 45, 46, 47, 48, 49, 50, 51, 52, 53, 54, 55, 56, 57, 58, 59, 60, 61, 62, 63, 64, 65, 66, 67, 68, 69, 70, 71, 72, 73, 74, 75, 76, 83, 84, 85, 86, 87, 88, 89, 90, 91, 92, 93, 94, 95, 96, 97] (by decide +kernel) (by decide +kernel)
set_option maxRecDepth 20000 in
theorem gX3_access_X3_askLower : GoodIn wsX3_access (wsV RX3 108 RX3 yX3_askLower wsX3_askLower) := goodIn_app (goodIn_of _ (by decide +kernel)) ggX3_access_X3_askLower
set_option maxRecDepth 20000 in
theorem ggX3_access_X3_dries : GoodIn wsX3_access wsX3_dries := goodIn_r _ [86, 2, 12, 87, 88, 89, 90, 91, 92, 93, 94, 95, 96, 97] (by decide +kernel) (by decide +kernel)
set_option maxRecDepth 20000 in
theorem gX3_access_X3_dries : GoodIn wsX3_access (wsV RX3 101 RX3 yX3_dries wsX3_dries) := goodIn_app (goodIn_of _ (by decide +kernel)) ggX3_access_X3_dries
theorem dX3_access_0 : decode cX3_access 0 = .ok (.iload_n 1, 1) := by decide +kernel
theorem dX3_access_1 : decode cX3_access 1 = .ok (.invokestatic 104, 3) := by decide +kernel
theorem dX3_access_4 : decode cX3_access 4 = .ok (.ifCond .ne 5, 3) := by decide +kernel
theorem dX3_access_7 : decode cX3_access 7 = .ok (.iconst (-1), 1) := by decide +kernel
theorem dX3_access_8 : decode cX3_access 8 = .ok (.ireturn, 1) := by decide +kernel
theorem dX3_access_9 : decode cX3_access 9 = .ok (.iconst 0, 1) := by decide +kernel
theorem dX3_access_10 : decode cX3_access 10 = .ok (.istore_n 3, 1) := by decide +kernel
theorem dX3_access_11 : decode cX3_access 11 = .ok (.aload_n 0, 1) := by decide +kernel
theorem dX3_access_12 : decode cX3_access 12 = .ok (.iconst 0, 1) := by decide +kernel
theorem dX3_access_13 : decode cX3_access 13 = .ok (.iload_n 1, 1) := by decide +kernel
theorem dX3_access_14 : decode cX3_access 14 = .ok (.invokevirtual 98, 3) := by decide +kernel
theorem dX3_access_17 : decode cX3_access 17 = .ok (.istore 4, 2) := by decide +kernel
theorem dX3_access_19 : decode cX3_access 19 = .ok (.aload_n 0, 1) := by decide +kernel
theorem dX3_access_20 : decode cX3_access 20 = .ok (.getfield 65, 3) := by decide +kernel
theorem dX3_access_23 : decode cX3_access 23 = .ok (.istore 5, 2) := by decide +kernel
theorem dX3_access_25 : decode cX3_access 25 = .ok (.iload 4, 2) := by decide +kernel
theorem dX3_access_27 : decode cX3_access 27 = .ok (.ifCond .ne 18, 3) := by decide +kernel
theorem dX3_access_30 : decode cX3_access 30 = .ok (.aload_n 0, 1) := by decide +kernel
theorem dX3_access_31 : decode cX3_access 31 = .ok (.iload_n 1, 1) := by decide +kernel
theorem dX3_access_32 : decode cX3_access 32 = .ok (.iconst 0, 1) := by decide +kernel
theorem dX3_access_33 : decode cX3_access 33 = .ok (.invokevirtual 108, 3) := by decide +kernel
theorem dX3_access_36 : decode cX3_access 36 = .ok (.ifCond .eq 7, 3) := by decide +kernel
theorem dX3_access_39 : decode cX3_access 39 = .ok (.iconst 1, 1) := by decide +kernel
theorem dX3_access_40 : decode cX3_access 40 = .ok (.goto 4, 3) := by decide +kernel
theorem dX3_access_43 : decode cX3_access 43 = .ok (.iconst 2, 1) := by decide +kernel
theorem dX3_access_44 : decode cX3_access 44 = .ok (.istore_n 3, 1) := by decide +kernel
theorem dX3_access_45 : decode cX3_access 45 = .ok (.aload_n 0, 1) := by decide +kernel
theorem dX3_access_46 : decode cX3_access 46 = .ok (.iconst 0, 1) := by decide +kernel
theorem dX3_access_47 : decode cX3_access 47 = .ok (.iload 5, 2) := by decide +kernel
theorem dX3_access_49 : decode cX3_access 49 = .ok (.invokevirtual 101, 3) := by decide +kernel
theorem dX3_access_52 : decode cX3_access 52 = .ok (.ifCond .eq 11, 3) := by decide +kernel
theorem dX3_access_55 : decode cX3_access 55 = .ok (.aload_n 0, 1) := by decide +kernel
theorem dX3_access_56 : decode cX3_access 56 = .ok (.iload 5, 2) := by decide +kernel
theorem dX3_access_58 : decode cX3_access 58 = .ok (.iconst 1, 1) := by decide +kernel
theorem dX3_access_59 : decode cX3_access 59 = .ok (.invokevirtual 108, 3) := by decide +kernel
theorem dX3_access_62 : decode cX3_access 62 = .ok (.pop, 1) := by decide +kernel
theorem dX3_access_63 : decode cX3_access 63 = .ok (.aload_n 0, 1) := by decide +kernel
theorem dX3_access_64 : decode cX3_access 64 = .ok (.getfield 29, 3) := by decide +kernel
theorem dX3_access_67 : decode cX3_access 67 = .ok (.iload_n 1, 1) := by decide +kernel
theorem dX3_access_68 : decode cX3_access 68 = .ok (.aload_n 0, 1) := by decide +kernel
theorem dX3_access_69 : decode cX3_access 69 = .ok (.getfield 29, 3) := by decide +kernel
theorem dX3_access_72 : decode cX3_access 72 = .ok (.iload_n 1, 1) := by decide +kernel
theorem dX3_access_73 : decode cX3_access 73 = .ok (.baload, 1) := by decide +kernel
theorem dX3_access_74 : decode cX3_access 74 = .ok (.ifCond .ne 7, 3) := by decide +kernel
theorem dX3_access_77 : decode cX3_access 77 = .ok (.iload_n 2, 1) := by decide +kernel
theorem dX3_access_78 : decode cX3_access 78 = .ok (.ifCond .eq 7, 3) := by decide +kernel
theorem dX3_access_81 : decode cX3_access 81 = .ok (.iconst 1, 1) := by decide +kernel
theorem dX3_access_82 : decode cX3_access 82 = .ok (.goto 4, 3) := by decide +kernel
theorem dX3_access_85 : decode cX3_access 85 = .ok (.iconst 0, 1) := by decide +kernel
theorem dX3_access_86 : decode cX3_access 86 = .ok (.bastore, 1) := by decide +kernel
theorem dX3_access_87 : decode cX3_access 87 = .ok (.iload_n 3, 1) := by decide +kernel
theorem dX3_access_88 : decode cX3_access 88 = .ok (.ireturn, 1) := by decide +kernel
set_option maxRecDepth 20000 in
theorem ggX3_flush_X3_askLower : GoodIn wsX3_flush wsX3_askLower := goodIn_r _ [7, 8, 9, 1, 2, 10, 11, 12, 6, 13, 14, 15, 16, 17, 18, 19, 20, 21, 22, 23, 24, 25, 26, 27, 28, 29, 30, 31, 32, 33, 34, 35, 36, 37, 38, 39, 40, 41, 42, 43, 44, 45, 46, 47, 48, 49, 50, 51, 52, 53, 54, 55, 56, 57, 58, 59, 60, 61, 62, 63, 64, 65, 66, 67, 68, 69, 70, 71, 72, 73, 74, 75, 76, 77, 78, 79, 80, 81, 82, 83, 84, 85, 86, 87, 88, 89, 90, 91, 92, 93, 94] (by decide +kernel) (by decide +kernel)
set_option maxRecDepth 20000 in
theorem gX3_flush_X3_askLower : GoodIn wsX3_flush (wsV RX3 108 RX3 yX3_askLower wsX3_askLower) := goodIn_app (goodIn_of _ (by decide +kernel)) ggX3_flush_X3_askLower
theorem dX3_flush_0 : decode cX3_flush 0 = .ok (.aload_n 0, 1) := by decide +kernel
theorem dX3_flush_1 : decode cX3_flush 1 = .ok (.getfield 39, 3) := by decide +kernel
theorem dX3_flush_4 : decode cX3_flush 4 = .ok (.istore_n 1, 1) := by decide +kernel
theorem dX3_flush_5 : decode cX3_flush 5 = .ok (.iconst 0, 1) := by decide +kernel
theorem dX3_flush_6 : decode cX3_flush 6 = .ok (.istore_n 2, 1) := by decide +kernel
theorem dX3_flush_7 : decode cX3_flush 7 = .ok (.iload_n 2, 1) := by decide +kernel
theorem dX3_flush_8 : decode cX3_flush 8 = .ok (.bipush 64, 2) := by decide +kernel
theorem dX3_flush_10 : decode cX3_flush 10 = .ok (.if_icmp .ge 32, 3) := by decide +kernel
theorem dX3_flush_13 : decode cX3_flush 13 = .ok (.aload_n 0, 1) := by decide +kernel
theorem dX3_flush_14 : decode cX3_flush 14 = .ok (.getfield 29, 3) := by decide +kernel
theorem dX3_flush_17 : decode cX3_flush 17 = .ok (.iload_n 2, 1) := by decide +kernel
theorem dX3_flush_18 : decode cX3_flush 18 = .ok (.baload, 1) := by decide +kernel
theorem dX3_flush_19 : decode cX3_flush 19 = .ok (.ifCond .eq 17, 3) := by decide +kernel
theorem dX3_flush_22 : decode cX3_flush 22 = .ok (.aload_n 0, 1) := by decide +kernel
theorem dX3_flush_23 : decode cX3_flush 23 = .ok (.getfield 29, 3) := by decide +kernel
theorem dX3_flush_26 : decode cX3_flush 26 = .ok (.iload_n 2, 1) := by decide +kernel
theorem dX3_flush_27 : decode cX3_flush 27 = .ok (.iconst 0, 1) := by decide +kernel
theorem dX3_flush_28 : decode cX3_flush 28 = .ok (.bastore, 1) := by decide +kernel
theorem dX3_flush_29 : decode cX3_flush 29 = .ok (.aload_n 0, 1) := by decide +kernel
theorem dX3_flush_30 : decode cX3_flush 30 = .ok (.iload_n 2, 1) := by decide +kernel
theorem dX3_flush_31 : decode cX3_flush 31 = .ok (.iconst 1, 1) := by decide +kernel
theorem dX3_flush_32 : decode cX3_flush 32 = .ok (.invokevirtual 108, 3) := by decide +kernel
theorem dX3_flush_35 : decode cX3_flush 35 = .ok (.pop, 1) := by decide +kernel
theorem dX3_flush_36 : decode cX3_flush 36 = .ok (.iinc 2 1, 3) := by decide +kernel
theorem dX3_flush_39 : decode cX3_flush 39 = .ok (.goto (-32), 3) := by decide +kernel
theorem dX3_flush_42 : decode cX3_flush 42 = .ok (.iconst 0, 1) := by decide +kernel
theorem dX3_flush_43 : decode cX3_flush 43 = .ok (.istore_n 2, 1) := by decide +kernel
theorem dX3_flush_44 : decode cX3_flush 44 = .ok (.iload_n 2, 1) := by decide +kernel
theorem dX3_flush_45 : decode cX3_flush 45 = .ok (.bipush 64, 2) := by decide +kernel
theorem dX3_flush_47 : decode cX3_flush 47 = .ok (.if_icmp .ge 48, 3) := by decide +kernel
theorem dX3_flush_50 : decode cX3_flush 50 = .ok (.aload_n 0, 1) := by decide +kernel
theorem dX3_flush_51 : decode cX3_flush 51 = .ok (.aload_n 0, 1) := by decide +kernel
theorem dX3_flush_52 : decode cX3_flush 52 = .ok (.getfield 29, 3) := by decide +kernel
theorem dX3_flush_55 : decode cX3_flush 55 = .ok (.bipush 64, 2) := by decide +kernel
theorem dX3_flush_57 : decode cX3_flush 57 = .ok (.iload_n 2, 1) := by decide +kernel
theorem dX3_flush_58 : decode cX3_flush 58 = .ok (.iadd, 1) := by decide +kernel
theorem dX3_flush_59 : decode cX3_flush 59 = .ok (.baload, 1) := by decide +kernel
theorem dX3_flush_60 : decode cX3_flush 60 = .ok (.ifCond .eq 12, 3) := by decide +kernel
theorem dX3_flush_63 : decode cX3_flush 63 = .ok (.aload_n 0, 1) := by decide +kernel
theorem dX3_flush_64 : decode cX3_flush 64 = .ok (.getfield 39, 3) := by decide +kernel
theorem dX3_flush_67 : decode cX3_flush 67 = .ok (.iconst 1, 1) := by decide +kernel
theorem dX3_flush_68 : decode cX3_flush 68 = .ok (.iadd, 1) := by decide +kernel
theorem dX3_flush_69 : decode cX3_flush 69 = .ok (.goto 7, 3) := by decide +kernel
theorem dX3_flush_72 : decode cX3_flush 72 = .ok (.aload_n 0, 1) := by decide +kernel
theorem dX3_flush_73 : decode cX3_flush 73 = .ok (.getfield 39, 3) := by decide +kernel
theorem dX3_flush_76 : decode cX3_flush 76 = .ok (.putfield 39, 3) := by decide +kernel
theorem dX3_flush_79 : decode cX3_flush 79 = .ok (.aload_n 0, 1) := by decide +kernel
theorem dX3_flush_80 : decode cX3_flush 80 = .ok (.getfield 29, 3) := by decide +kernel
theorem dX3_flush_83 : decode cX3_flush 83 = .ok (.bipush 64, 2) := by decide +kernel
theorem dX3_flush_85 : decode cX3_flush 85 = .ok (.iload_n 2, 1) := by decide +kernel
theorem dX3_flush_86 : decode cX3_flush 86 = .ok (.iadd, 1) := by decide +kernel
theorem dX3_flush_87 : decode cX3_flush 87 = .ok (.iconst 0, 1) := by decide +kernel
theorem dX3_flush_88 : decode cX3_flush 88 = .ok (.bastore, 1) := by decide +kernel
theorem dX3_flush_89 : decode cX3_flush 89 = .ok (.iinc 2 1, 3) := by decide +kernel
theorem dX3_flush_92 : decode cX3_flush 92 = .ok (.goto (-48), 3) := by decide +kernel
theorem dX3_flush_95 : decode cX3_flush 95 = .ok (.aload_n 0, 1) := by decide +kernel
theorem dX3_flush_96 : decode cX3_flush 96 = .ok (.getfield 39, 3) := by decide +kernel
theorem dX3_flush_99 : decode cX3_flush 99 = .ok (.iload_n 1, 1) := by decide +kernel
theorem dX3_flush_100 : decode cX3_flush 100 = .ok (.isub, 1) := by decide +kernel
theorem dX3_flush_101 : decode cX3_flush 101 = .ok (.ireturn, 1) := by decide +kernel
set_option maxRecDepth 20000 in
theorem ggX3_resident_X3_isTier : GoodIn wsX3_resident wsX3_isTier := goodIn_r _ [5] (by decide +kernel) (by decide +kernel)
set_option maxRecDepth 20000 in
theorem gX3_resident_X3_isTier : GoodIn wsX3_resident (va_wsS RX3 112 yX3_isTier wsX3_isTier) := goodIn_app (goodIn_of _ (by decide +kernel)) ggX3_resident_X3_isTier
set_option maxRecDepth 20000 in
theorem ggX3_resident_X3_isPage : GoodIn wsX3_resident wsX3_isPage := goodIn_r _ [8] (by decide +kernel) (by decide +kernel)
set_option maxRecDepth 20000 in
theorem gX3_resident_X3_isPage : GoodIn wsX3_resident (va_wsS RX3 104 yX3_isPage wsX3_isPage) := goodIn_app (goodIn_of _ (by decide +kernel)) ggX3_resident_X3_isPage
set_option maxRecDepth 20000 in
theorem ggX3_resident_X3_isIn : GoodIn wsX3_resident wsX3_isIn := goodIn_r _ [12, 13, 14, 15, 4, 16, 17, 18, 19, 20, 21, 22, 23, 24, 25, 26, 27, 28, 29] (by decide +kernel) (by decide +kernel)
set_option maxRecDepth 20000 in
theorem gX3_resident_X3_isIn : GoodIn wsX3_resident (wsV RX3 53 RX3 yX3_isIn wsX3_isIn) := goodIn_app (goodIn_of _ (by decide +kernel)) ggX3_resident_X3_isIn
theorem dX3_resident_0 : decode cX3_resident 0 = .ok (.iload_n 1, 1) := by decide +kernel
theorem dX3_resident_1 : decode cX3_resident 1 = .ok (.invokestatic 112, 3) := by decide +kernel
theorem dX3_resident_4 : decode cX3_resident 4 = .ok (.ifCond .eq 10, 3) := by decide +kernel
theorem dX3_resident_7 : decode cX3_resident 7 = .ok (.iload_n 2, 1) := by decide +kernel
theorem dX3_resident_8 : decode cX3_resident 8 = .ok (.invokestatic 104, 3) := by decide +kernel
theorem dX3_resident_11 : decode cX3_resident 11 = .ok (.ifCond .ne 5, 3) := by decide +kernel
theorem dX3_resident_14 : decode cX3_resident 14 = .ok (.iconst 0, 1) := by decide +kernel
theorem dX3_resident_15 : decode cX3_resident 15 = .ok (.ireturn, 1) := by decide +kernel
theorem dX3_resident_16 : decode cX3_resident 16 = .ok (.iconst 4, 1) := by decide +kernel
theorem dX3_resident_17 : decode cX3_resident 17 = .ok (.iload_n 1, 1) := by decide +kernel
theorem dX3_resident_18 : decode cX3_resident 18 = .ok (.imul, 1) := by decide +kernel
theorem dX3_resident_19 : decode cX3_resident 19 = .ok (.istore_n 3, 1) := by decide +kernel
theorem dX3_resident_20 : decode cX3_resident 20 = .ok (.aload_n 0, 1) := by decide +kernel
theorem dX3_resident_21 : decode cX3_resident 21 = .ok (.getfield 7, 3) := by decide +kernel
theorem dX3_resident_24 : decode cX3_resident 24 = .ok (.iload_n 1, 1) := by decide +kernel
theorem dX3_resident_25 : decode cX3_resident 25 = .ok (.iaload, 1) := by decide +kernel
theorem dX3_resident_26 : decode cX3_resident 26 = .ok (.iconst 2, 1) := by decide +kernel
theorem dX3_resident_27 : decode cX3_resident 27 = .ok (.if_icmp .ne 9, 3) := by decide +kernel
theorem dX3_resident_30 : decode cX3_resident 30 = .ok (.iload_n 3, 1) := by decide +kernel
theorem dX3_resident_31 : decode cX3_resident 31 = .ok (.iconst 2, 1) := by decide +kernel
theorem dX3_resident_32 : decode cX3_resident 32 = .ok (.iadd, 1) := by decide +kernel
theorem dX3_resident_33 : decode cX3_resident 33 = .ok (.goto 20, 3) := by decide +kernel
theorem dX3_resident_36 : decode cX3_resident 36 = .ok (.aload_n 0, 1) := by decide +kernel
theorem dX3_resident_37 : decode cX3_resident 37 = .ok (.getfield 7, 3) := by decide +kernel
theorem dX3_resident_40 : decode cX3_resident 40 = .ok (.iload_n 1, 1) := by decide +kernel
theorem dX3_resident_41 : decode cX3_resident 41 = .ok (.iaload, 1) := by decide +kernel
theorem dX3_resident_42 : decode cX3_resident 42 = .ok (.iconst 3, 1) := by decide +kernel
theorem dX3_resident_43 : decode cX3_resident 43 = .ok (.if_icmp .ne 9, 3) := by decide +kernel
theorem dX3_resident_46 : decode cX3_resident 46 = .ok (.iload_n 3, 1) := by decide +kernel
theorem dX3_resident_47 : decode cX3_resident 47 = .ok (.iconst 1, 1) := by decide +kernel
theorem dX3_resident_48 : decode cX3_resident 48 = .ok (.iadd, 1) := by decide +kernel
theorem dX3_resident_49 : decode cX3_resident 49 = .ok (.goto 4, 3) := by decide +kernel
theorem dX3_resident_52 : decode cX3_resident 52 = .ok (.iload_n 3, 1) := by decide +kernel
theorem dX3_resident_53 : decode cX3_resident 53 = .ok (.istore 4, 2) := by decide +kernel
theorem dX3_resident_55 : decode cX3_resident 55 = .ok (.aload_n 0, 1) := by decide +kernel
theorem dX3_resident_56 : decode cX3_resident 56 = .ok (.iload_n 3, 1) := by decide +kernel
theorem dX3_resident_57 : decode cX3_resident 57 = .ok (.iload_n 2, 1) := by decide +kernel
theorem dX3_resident_58 : decode cX3_resident 58 = .ok (.invokevirtual 53, 3) := by decide +kernel
theorem dX3_resident_61 : decode cX3_resident 61 = .ok (.ifCond .ne 13, 3) := by decide +kernel
theorem dX3_resident_64 : decode cX3_resident 64 = .ok (.aload_n 0, 1) := by decide +kernel
theorem dX3_resident_65 : decode cX3_resident 65 = .ok (.iload 4, 2) := by decide +kernel
theorem dX3_resident_67 : decode cX3_resident 67 = .ok (.iload_n 2, 1) := by decide +kernel
theorem dX3_resident_68 : decode cX3_resident 68 = .ok (.invokevirtual 53, 3) := by decide +kernel
theorem dX3_resident_71 : decode cX3_resident 71 = .ok (.ifCond .eq 7, 3) := by decide +kernel
theorem dX3_resident_74 : decode cX3_resident 74 = .ok (.iconst 1, 1) := by decide +kernel
theorem dX3_resident_75 : decode cX3_resident 75 = .ok (.goto 4, 3) := by decide +kernel
theorem dX3_resident_78 : decode cX3_resident 78 = .ok (.iconst 0, 1) := by decide +kernel
theorem dX3_resident_79 : decode cX3_resident 79 = .ok (.ireturn, 1) := by decide +kernel
set_option maxRecDepth 20000 in
theorem ggX3_dirty_X3_isTier : GoodIn wsX3_dirty wsX3_isTier := goodIn_r _ [5] (by decide +kernel) (by decide +kernel)
set_option maxRecDepth 20000 in
theorem gX3_dirty_X3_isTier : GoodIn wsX3_dirty (va_wsS RX3 112 yX3_isTier wsX3_isTier) := goodIn_app (goodIn_of _ (by decide +kernel)) ggX3_dirty_X3_isTier
set_option maxRecDepth 20000 in
theorem ggX3_dirty_X3_isPage : GoodIn wsX3_dirty wsX3_isPage := goodIn_r _ [8] (by decide +kernel) (by decide +kernel)
set_option maxRecDepth 20000 in
theorem gX3_dirty_X3_isPage : GoodIn wsX3_dirty (va_wsS RX3 104 yX3_isPage wsX3_isPage) := goodIn_app (goodIn_of _ (by decide +kernel)) ggX3_dirty_X3_isPage
theorem dX3_dirty_0 : decode cX3_dirty 0 = .ok (.iload_n 1, 1) := by decide +kernel
theorem dX3_dirty_1 : decode cX3_dirty 1 = .ok (.invokestatic 112, 3) := by decide +kernel
theorem dX3_dirty_4 : decode cX3_dirty 4 = .ok (.ifCond .eq 28, 3) := by decide +kernel
theorem dX3_dirty_7 : decode cX3_dirty 7 = .ok (.iload_n 2, 1) := by decide +kernel
theorem dX3_dirty_8 : decode cX3_dirty 8 = .ok (.invokestatic 104, 3) := by decide +kernel
theorem dX3_dirty_11 : decode cX3_dirty 11 = .ok (.ifCond .eq 21, 3) := by decide +kernel
theorem dX3_dirty_14 : decode cX3_dirty 14 = .ok (.aload_n 0, 1) := by decide +kernel
theorem dX3_dirty_15 : decode cX3_dirty 15 = .ok (.getfield 29, 3) := by decide +kernel
theorem dX3_dirty_18 : decode cX3_dirty 18 = .ok (.bipush 64, 2) := by decide +kernel
theorem dX3_dirty_20 : decode cX3_dirty 20 = .ok (.iload_n 1, 1) := by decide +kernel
theorem dX3_dirty_21 : decode cX3_dirty 21 = .ok (.imul, 1) := by decide +kernel
theorem dX3_dirty_22 : decode cX3_dirty 22 = .ok (.iload_n 2, 1) := by decide +kernel
theorem dX3_dirty_23 : decode cX3_dirty 23 = .ok (.iadd, 1) := by decide +kernel
theorem dX3_dirty_24 : decode cX3_dirty 24 = .ok (.baload, 1) := by decide +kernel
theorem dX3_dirty_25 : decode cX3_dirty 25 = .ok (.ifCond .eq 7, 3) := by decide +kernel
theorem dX3_dirty_28 : decode cX3_dirty 28 = .ok (.iconst 1, 1) := by decide +kernel
theorem dX3_dirty_29 : decode cX3_dirty 29 = .ok (.goto 4, 3) := by decide +kernel
theorem dX3_dirty_32 : decode cX3_dirty 32 = .ok (.iconst 0, 1) := by decide +kernel
theorem dX3_dirty_33 : decode cX3_dirty 33 = .ok (.ireturn, 1) := by decide +kernel
set_option maxRecDepth 20000 in
theorem ggX3_marked_X3_isTier : GoodIn wsX3_marked wsX3_isTier := goodIn_r _ [6] (by decide +kernel) (by decide +kernel)
set_option maxRecDepth 20000 in
theorem gX3_marked_X3_isTier : GoodIn wsX3_marked (va_wsS RX3 112 yX3_isTier wsX3_isTier) := goodIn_app (goodIn_of _ (by decide +kernel)) ggX3_marked_X3_isTier
set_option maxRecDepth 20000 in
theorem ggX3_marked_X3_isPage : GoodIn wsX3_marked wsX3_isPage := goodIn_r _ [9] (by decide +kernel) (by decide +kernel)
set_option maxRecDepth 20000 in
theorem gX3_marked_X3_isPage : GoodIn wsX3_marked (va_wsS RX3 104 yX3_isPage wsX3_isPage) := goodIn_app (goodIn_of _ (by decide +kernel)) ggX3_marked_X3_isPage
theorem dX3_marked_0 : decode cX3_marked 0 = .ok (.iload_n 1, 1) := by decide +kernel
theorem dX3_marked_1 : decode cX3_marked 1 = .ok (.invokestatic 112, 3) := by decide +kernel
theorem dX3_marked_4 : decode cX3_marked 4 = .ok (.ifCond .eq 38, 3) := by decide +kernel
theorem dX3_marked_7 : decode cX3_marked 7 = .ok (.iload_n 2, 1) := by decide +kernel
theorem dX3_marked_8 : decode cX3_marked 8 = .ok (.invokestatic 104, 3) := by decide +kernel
theorem dX3_marked_11 : decode cX3_marked 11 = .ok (.ifCond .eq 31, 3) := by decide +kernel
theorem dX3_marked_14 : decode cX3_marked 14 = .ok (.aload_n 0, 1) := by decide +kernel
theorem dX3_marked_15 : decode cX3_marked 15 = .ok (.getfield 7, 3) := by decide +kernel
theorem dX3_marked_18 : decode cX3_marked 18 = .ok (.iload_n 1, 1) := by decide +kernel
theorem dX3_marked_19 : decode cX3_marked 19 = .ok (.iaload, 1) := by decide +kernel
theorem dX3_marked_20 : decode cX3_marked 20 = .ok (.iconst 1, 1) := by decide +kernel
theorem dX3_marked_21 : decode cX3_marked 21 = .ok (.if_icmp .ne 21, 3) := by decide +kernel
theorem dX3_marked_24 : decode cX3_marked 24 = .ok (.aload_n 0, 1) := by decide +kernel
theorem dX3_marked_25 : decode cX3_marked 25 = .ok (.getfield 25, 3) := by decide +kernel
theorem dX3_marked_28 : decode cX3_marked 28 = .ok (.bipush 64, 2) := by decide +kernel
theorem dX3_marked_30 : decode cX3_marked 30 = .ok (.iload_n 1, 1) := by decide +kernel
theorem dX3_marked_31 : decode cX3_marked 31 = .ok (.imul, 1) := by decide +kernel
theorem dX3_marked_32 : decode cX3_marked 32 = .ok (.iload_n 2, 1) := by decide +kernel
theorem dX3_marked_33 : decode cX3_marked 33 = .ok (.iadd, 1) := by decide +kernel
theorem dX3_marked_34 : decode cX3_marked 34 = .ok (.baload, 1) := by decide +kernel
theorem dX3_marked_35 : decode cX3_marked 35 = .ok (.ifCond .eq 7, 3) := by decide +kernel
theorem dX3_marked_38 : decode cX3_marked 38 = .ok (.iconst 1, 1) := by decide +kernel
theorem dX3_marked_39 : decode cX3_marked 39 = .ok (.goto 4, 3) := by decide +kernel
theorem dX3_marked_42 : decode cX3_marked 42 = .ok (.iconst 0, 1) := by decide +kernel
theorem dX3_marked_43 : decode cX3_marked 43 = .ok (.ireturn, 1) := by decide +kernel
set_option maxRecDepth 20000 in
theorem ggX3_row_X3_isTier : GoodIn wsX3_row wsX3_isTier := goodIn_r _ [6] (by decide +kernel) (by decide +kernel)
set_option maxRecDepth 20000 in
theorem gX3_row_X3_isTier : GoodIn wsX3_row (va_wsS RX3 112 yX3_isTier wsX3_isTier) := goodIn_app (goodIn_of _ (by decide +kernel)) ggX3_row_X3_isTier
theorem dX3_row_0 : decode cX3_row 0 = .ok (.iload_n 1, 1) := by decide +kernel
theorem dX3_row_1 : decode cX3_row 1 = .ok (.invokestatic 112, 3) := by decide +kernel
theorem dX3_row_4 : decode cX3_row 4 = .ok (.ifCond .eq 30, 3) := by decide +kernel
theorem dX3_row_7 : decode cX3_row 7 = .ok (.iload_n 2, 1) := by decide +kernel
theorem dX3_row_8 : decode cX3_row 8 = .ok (.ifCond .lt 26, 3) := by decide +kernel
theorem dX3_row_11 : decode cX3_row 11 = .ok (.iload_n 2, 1) := by decide +kernel
theorem dX3_row_12 : decode cX3_row 12 = .ok (.iconst 3, 1) := by decide +kernel
theorem dX3_row_13 : decode cX3_row 13 = .ok (.if_icmp .gt 21, 3) := by decide +kernel
theorem dX3_row_16 : decode cX3_row 16 = .ok (.iload_n 3, 1) := by decide +kernel
theorem dX3_row_17 : decode cX3_row 17 = .ok (.ifCond .lt 17, 3) := by decide +kernel
theorem dX3_row_20 : decode cX3_row 20 = .ok (.iload_n 3, 1) := by decide +kernel
theorem dX3_row_21 : decode cX3_row 21 = .ok (.aload_n 0, 1) := by decide +kernel
theorem dX3_row_22 : decode cX3_row 22 = .ok (.getfield 19, 3) := by decide +kernel
theorem dX3_row_25 : decode cX3_row 25 = .ok (.iconst 4, 1) := by decide +kernel
theorem dX3_row_26 : decode cX3_row 26 = .ok (.iload_n 1, 1) := by decide +kernel
theorem dX3_row_27 : decode cX3_row 27 = .ok (.imul, 1) := by decide +kernel
theorem dX3_row_28 : decode cX3_row 28 = .ok (.iload_n 2, 1) := by decide +kernel
theorem dX3_row_29 : decode cX3_row 29 = .ok (.iadd, 1) := by decide +kernel
theorem dX3_row_30 : decode cX3_row 30 = .ok (.iaload, 1) := by decide +kernel
theorem dX3_row_31 : decode cX3_row 31 = .ok (.if_icmp .lt 5, 3) := by decide +kernel
theorem dX3_row_34 : decode cX3_row 34 = .ok (.iconst (-1), 1) := by decide +kernel
theorem dX3_row_35 : decode cX3_row 35 = .ok (.ireturn, 1) := by decide +kernel
theorem dX3_row_36 : decode cX3_row 36 = .ok (.aload_n 0, 1) := by decide +kernel
theorem dX3_row_37 : decode cX3_row 37 = .ok (.getfield 22, 3) := by decide +kernel
theorem dX3_row_40 : decode cX3_row 40 = .ok (.bipush 20, 2) := by decide +kernel
theorem dX3_row_42 : decode cX3_row 42 = .ok (.iconst 4, 1) := by decide +kernel
theorem dX3_row_43 : decode cX3_row 43 = .ok (.iload_n 1, 1) := by decide +kernel
theorem dX3_row_44 : decode cX3_row 44 = .ok (.imul, 1) := by decide +kernel
theorem dX3_row_45 : decode cX3_row 45 = .ok (.iload_n 2, 1) := by decide +kernel
theorem dX3_row_46 : decode cX3_row 46 = .ok (.iadd, 1) := by decide +kernel
theorem dX3_row_47 : decode cX3_row 47 = .ok (.imul, 1) := by decide +kernel
theorem dX3_row_48 : decode cX3_row 48 = .ok (.iload_n 3, 1) := by decide +kernel
theorem dX3_row_49 : decode cX3_row 49 = .ok (.iadd, 1) := by decide +kernel
theorem dX3_row_50 : decode cX3_row 50 = .ok (.iaload, 1) := by decide +kernel
theorem dX3_row_51 : decode cX3_row 51 = .ok (.ireturn, 1) := by decide +kernel
set_option maxRecDepth 20000 in
theorem ggX3_goal_X3_isTier : GoodIn wsX3_goal wsX3_isTier := goodIn_r _ [6] (by decide +kernel) (by decide +kernel)
set_option maxRecDepth 20000 in
theorem gX3_goal_X3_isTier : GoodIn wsX3_goal (va_wsS RX3 112 yX3_isTier wsX3_isTier) := goodIn_app (goodIn_of _ (by decide +kernel)) ggX3_goal_X3_isTier
theorem dX3_goal_0 : decode cX3_goal 0 = .ok (.iload_n 1, 1) := by decide +kernel
theorem dX3_goal_1 : decode cX3_goal 1 = .ok (.invokestatic 112, 3) := by decide +kernel
theorem dX3_goal_4 : decode cX3_goal 4 = .ok (.ifCond .eq 22, 3) := by decide +kernel
theorem dX3_goal_7 : decode cX3_goal 7 = .ok (.aload_n 0, 1) := by decide +kernel
theorem dX3_goal_8 : decode cX3_goal 8 = .ok (.getfield 7, 3) := by decide +kernel
theorem dX3_goal_11 : decode cX3_goal 11 = .ok (.iload_n 1, 1) := by decide +kernel
theorem dX3_goal_12 : decode cX3_goal 12 = .ok (.iaload, 1) := by decide +kernel
theorem dX3_goal_13 : decode cX3_goal 13 = .ok (.iconst 3, 1) := by decide +kernel
theorem dX3_goal_14 : decode cX3_goal 14 = .ok (.if_icmp .ne 12, 3) := by decide +kernel
theorem dX3_goal_17 : decode cX3_goal 17 = .ok (.aload_n 0, 1) := by decide +kernel
theorem dX3_goal_18 : decode cX3_goal 18 = .ok (.getfield 16, 3) := by decide +kernel
theorem dX3_goal_21 : decode cX3_goal 21 = .ok (.iload_n 1, 1) := by decide +kernel
theorem dX3_goal_22 : decode cX3_goal 22 = .ok (.iaload, 1) := by decide +kernel
theorem dX3_goal_23 : decode cX3_goal 23 = .ok (.goto 4, 3) := by decide +kernel
theorem dX3_goal_26 : decode cX3_goal 26 = .ok (.iconst (-1), 1) := by decide +kernel
theorem dX3_goal_27 : decode cX3_goal 27 = .ok (.ireturn, 1) := by decide +kernel
set_option maxRecDepth 20000 in
theorem ggX3_count_X3_isTier : GoodIn wsX3_count wsX3_isTier := goodIn_r _ [5] (by decide +kernel) (by decide +kernel)
set_option maxRecDepth 20000 in
theorem gX3_count_X3_isTier : GoodIn wsX3_count (va_wsS RX3 112 yX3_isTier wsX3_isTier) := goodIn_app (goodIn_of _ (by decide +kernel)) ggX3_count_X3_isTier
theorem dX3_count_0 : decode cX3_count 0 = .ok (.iload_n 1, 1) := by decide +kernel
theorem dX3_count_1 : decode cX3_count 1 = .ok (.invokestatic 112, 3) := by decide +kernel
theorem dX3_count_4 : decode cX3_count 4 = .ok (.ifCond .eq 25, 3) := by decide +kernel
theorem dX3_count_7 : decode cX3_count 7 = .ok (.iload_n 2, 1) := by decide +kernel
theorem dX3_count_8 : decode cX3_count 8 = .ok (.ifCond .lt 21, 3) := by decide +kernel
theorem dX3_count_11 : decode cX3_count 11 = .ok (.iload_n 2, 1) := by decide +kernel
theorem dX3_count_12 : decode cX3_count 12 = .ok (.iconst 3, 1) := by decide +kernel
theorem dX3_count_13 : decode cX3_count 13 = .ok (.if_icmp .ge 16, 3) := by decide +kernel
theorem dX3_count_16 : decode cX3_count 16 = .ok (.aload_n 0, 1) := by decide +kernel
theorem dX3_count_17 : decode cX3_count 17 = .ok (.getfield 32, 3) := by decide +kernel
theorem dX3_count_20 : decode cX3_count 20 = .ok (.iconst 3, 1) := by decide +kernel
theorem dX3_count_21 : decode cX3_count 21 = .ok (.iload_n 1, 1) := by decide +kernel
theorem dX3_count_22 : decode cX3_count 22 = .ok (.imul, 1) := by decide +kernel
theorem dX3_count_23 : decode cX3_count 23 = .ok (.iload_n 2, 1) := by decide +kernel
theorem dX3_count_24 : decode cX3_count 24 = .ok (.iadd, 1) := by decide +kernel
theorem dX3_count_25 : decode cX3_count 25 = .ok (.iaload, 1) := by decide +kernel
theorem dX3_count_26 : decode cX3_count 26 = .ok (.goto 4, 3) := by decide +kernel
theorem dX3_count_29 : decode cX3_count 29 = .ok (.iconst (-1), 1) := by decide +kernel
theorem dX3_count_30 : decode cX3_count 30 = .ok (.ireturn, 1) := by decide +kernel
theorem dX3_reads_0 : decode cX3_reads 0 = .ok (.aload_n 0, 1) := by decide +kernel
theorem dX3_reads_1 : decode cX3_reads 1 = .ok (.getfield 35, 3) := by decide +kernel
theorem dX3_reads_4 : decode cX3_reads 4 = .ok (.ireturn, 1) := by decide +kernel
theorem dX3_writes_0 : decode cX3_writes 0 = .ok (.aload_n 0, 1) := by decide +kernel
theorem dX3_writes_1 : decode cX3_writes 1 = .ok (.getfield 39, 3) := by decide +kernel
theorem dX3_writes_4 : decode cX3_writes 4 = .ok (.ireturn, 1) := by decide +kernel
theorem dJ9_max_7cf53_0 : decode cJ9_max_7cf53 0 = .ok (.iload_n 0, 1) := by decide +kernel
theorem dJ9_max_7cf53_1 : decode cJ9_max_7cf53 1 = .ok (.iload_n 1, 1) := by decide +kernel
theorem dJ9_max_7cf53_2 : decode cJ9_max_7cf53 2 = .ok (.if_icmp .lt 7, 3) := by decide +kernel
theorem dJ9_max_7cf53_5 : decode cJ9_max_7cf53 5 = .ok (.iload_n 0, 1) := by decide +kernel
theorem dJ9_max_7cf53_6 : decode cJ9_max_7cf53 6 = .ok (.goto 4, 3) := by decide +kernel
theorem dJ9_max_7cf53_9 : decode cJ9_max_7cf53 9 = .ok (.iload_n 1, 1) := by decide +kernel
theorem dJ9_max_7cf53_10 : decode cJ9_max_7cf53 10 = .ok (.ireturn, 1) := by decide +kernel
theorem dJ9_min_7cf53_0 : decode cJ9_min_7cf53 0 = .ok (.iload_n 0, 1) := by decide +kernel
theorem dJ9_min_7cf53_1 : decode cJ9_min_7cf53 1 = .ok (.iload_n 1, 1) := by decide +kernel
theorem dJ9_min_7cf53_2 : decode cJ9_min_7cf53 2 = .ok (.if_icmp .gt 7, 3) := by decide +kernel
theorem dJ9_min_7cf53_5 : decode cJ9_min_7cf53 5 = .ok (.iload_n 0, 1) := by decide +kernel
theorem dJ9_min_7cf53_6 : decode cJ9_min_7cf53 6 = .ok (.goto 4, 3) := by decide +kernel
theorem dJ9_min_7cf53_9 : decode cJ9_min_7cf53 9 = .ok (.iload_n 1, 1) := by decide +kernel
theorem dJ9_min_7cf53_10 : decode cJ9_min_7cf53 10 = .ok (.ireturn, 1) := by decide +kernel
set_option maxRecDepth 20000 in
theorem ggL_law_X2_init : GoodIn wsL_law wsX2_init := goodIn_r _ [8, 9, 10, 11, 12, 13, 14, 15, 16, 17, 18, 19, 20, 21, 22, 23, 24, 25, 26, 27, 28, 29, 30, 31, 398, 399, 400, 401, 402, 403, 404, 405, 406, 383, 384, 385, 386, 407, 408] (by decide +kernel) (by decide +kernel)
set_option maxRecDepth 20000 in
theorem gL_law_X2_init : GoodIn wsL_law (wsX2_init) := ggL_law_X2_init
set_option maxRecDepth 20000 in
theorem ggL_law_X3_init : GoodIn wsL_law wsX3_init := goodIn_r _ [34, 35, 10, 11, 30, 36, 37, 38, 39, 40, 41, 42, 43, 44, 387, 388, 389, 390, 391, 392, 393, 394, 395, 396, 397] (by decide +kernel) (by decide +kernel)
set_option maxRecDepth 20000 in
theorem gL_law_X3_init : GoodIn wsL_law (wsX3_init) := ggL_law_X3_init
set_option maxRecDepth 20000 in
theorem ggL_law_X2_begin : GoodIn wsL_law wsX2_begin := goodIn_r _ [48, 15, 16, 49, 50, 51, 52, 2, 53, 54, 55, 56, 57, 58, 59, 14, 60, 22, 25, 26, 61, 62, 63, 64, 65, 66, 67, 68, 69, 24, 70, 71, 383, 384, 385, 386, 398, 399, 400, 401, 402, 403, 404, 405, 406, 407, 408] (by decide +kernel) (by decide +kernel)
set_option maxRecDepth 20000 in
theorem gL_law_X2_begin : GoodIn wsL_law (wsV RL 13 RX2 yX2_begin wsX2_begin) := goodIn_app (goodIn_of _ (by decide +kernel)) ggL_law_X2_begin
set_option maxRecDepth 20000 in
theorem ggL_law_X3_begin : GoodIn wsL_law wsX3_begin := goodIn_r _ [75, 36, 37, 39, 42, 43, 44, 38, 76, 77, 387, 388, 389, 390, 391, 392, 393, 394, 395, 396, 397] (by decide +kernel) (by decide +kernel)
set_option maxRecDepth 20000 in
theorem gL_law_X3_begin : GoodIn wsL_law (wsV RL 17 RX3 yX3_begin wsX3_begin) := goodIn_app (goodIn_of _ (by decide +kernel)) ggL_law_X3_begin
set_option maxRecDepth 20000 in
theorem ggL_law_X2_access : GoodIn wsL_law wsX2_access := goodIn_r _ [81, 15, 82, 83, 2, 84, 85, 86, 87, 14, 88, 25, 22, 89, 90, 91, 24, 92, 93, 94, 95, 96, 71, 31, 97, 98, 99, 100, 64, 65, 101, 102, 103, 104, 105, 26, 106, 107, 108, 109, 110, 111, 112, 113, 114, 115, 116, 117, 118, 119, 120, 121, 122, 123, 124, 125, 126, 127, 128, 129, 63, 130, 131, 132, 133, 134, 135, 136, 137, 138, 139, 140, 141, 142, 143, 144, 145, 146, 147, 148, 149, 150, 151, 152, 153, 154, 155, 156, 157, 158, 159, 160, 161, 162, 163, 164, 165, 166, 167, 168, 169, 170, 171, 61, 172, 173, 174, 175, 176, 177, 178, 179, 180, 181, 182, 183, 184, 185, 186, 187, 188, 189, 190, 191, 192, 193, 16, 49, 50, 194, 195, 196, 197, 66, 198, 199, 200, 201, 62, 202, 203, 204, 205, 206, 207, 208, 209, 383, 384, 385, 386, 398, 399, 400, 401, 402, 403, 404, 405, 406, 407, 408] (by decide +kernel) (by decide +kernel)
set_option maxRecDepth 20000 in
theorem gL_law_X2_access : GoodIn wsL_law (wsV RL 18 RX2 yX2_access wsX2_access) := goodIn_app (goodIn_of _ (by decide +kernel)) ggL_law_X2_access
set_option maxRecDepth 20000 in
theorem ggL_law_X3_access : GoodIn wsL_law wsX3_access := goodIn_r _ [213, 214, 43, 215, 216, 5, 217, 218, 219, 220, 221, 36, 44, 222, 223, 224, 225, 39, 37, 226, 227, 228, 229, 230, 231, 232, 233, 40, 234, 235, 236, 237, 238, 239, 240, 241, 242, 243, 244, 245, 246, 247, 248, 249, 250, 251, 252, 253, 42, 254, 255, 256, 257, 258, 259, 260, 261, 262, 263, 264, 265, 266, 267, 268, 269, 270, 271, 272, 273, 38, 274, 275, 276, 277, 278, 279, 280, 281, 282, 283, 284, 76, 77, 285, 286, 287, 288, 387, 388, 389, 390, 391, 392, 393, 394, 395, 396, 397] (by decide +kernel) (by decide +kernel)
set_option maxRecDepth 20000 in
theorem gL_law_X3_access : GoodIn wsL_law (wsV RL 22 RX3 yX3_access wsX3_access) := goodIn_app (goodIn_of _ (by decide +kernel)) ggL_law_X3_access
set_option maxRecDepth 20000 in
theorem ggL_law_X2_flush : GoodIn wsL_law wsX2_flush := goodIn_r _ [292, 50, 15, 16, 293, 199, 200, 14, 201, 62, 137, 202, 203, 204, 205, 130, 131, 132, 190, 191, 192, 2, 193, 49, 85, 86, 87, 88, 25, 22, 89, 90, 91, 24, 92, 93, 94, 95, 96, 71, 31, 97, 98, 99, 100, 64, 65, 101, 102, 103, 104, 105, 26, 106, 107, 108, 109, 110, 111, 112, 113, 114, 115, 116, 117, 118, 119, 120, 121, 122, 123, 124, 125, 126, 127, 128, 129, 63, 133, 134, 135, 136, 138, 139, 140, 141, 142, 143, 144, 145, 146, 147, 148, 149, 150, 151, 152, 153, 154, 155, 156, 157, 158, 159, 160, 161, 162, 163, 164, 165, 166, 167, 168, 169, 170, 171, 61, 172, 173, 174, 175, 176, 177, 178, 179, 180, 181, 182, 183, 184, 185, 186, 187, 188, 189, 194, 195, 196, 197, 66, 198, 206, 207, 208, 209, 383, 384, 385, 386, 398, 399, 400, 401, 402, 403, 404, 405, 406, 407, 408] (by decide +kernel) (by decide +kernel)
set_option maxRecDepth 20000 in
theorem gL_law_X2_flush : GoodIn wsL_law (wsV RL 23 RX2 yX2_flush wsX2_flush) := goodIn_app (goodIn_of _ (by decide +kernel)) ggL_law_X2_flush
set_option maxRecDepth 20000 in
theorem ggL_law_X3_flush : GoodIn wsL_law wsX3_flush := goodIn_r _ [297, 77, 43, 281, 282, 283, 5, 284, 76, 214, 218, 219, 220, 221, 36, 44, 222, 223, 224, 225, 39, 37, 226, 227, 228, 229, 230, 231, 232, 233, 40, 234, 235, 236, 237, 238, 239, 240, 241, 242, 243, 244, 245, 246, 247, 248, 249, 250, 251, 252, 253, 42, 254, 255, 256, 257, 258, 259, 260, 261, 262, 263, 264, 265, 266, 267, 268, 269, 270, 271, 272, 273, 38, 274, 275, 276, 277, 278, 279, 280, 285, 286, 287, 288, 387, 388, 389, 390, 391, 392, 393, 394, 395, 396, 397] (by decide +kernel) (by decide +kernel)
set_option maxRecDepth 20000 in
theorem gL_law_X3_flush : GoodIn wsL_law (wsV RL 27 RX3 yX3_flush wsX3_flush) := goodIn_app (goodIn_of _ (by decide +kernel)) ggL_law_X3_flush
set_option maxRecDepth 20000 in
theorem ggL_law_X2_resident : GoodIn wsL_law wsX2_resident := goodIn_r _ [301, 302, 303, 304, 2, 305, 15, 16, 82, 83, 84, 85, 86, 87, 14, 88, 25, 22, 89, 90, 91, 24, 92, 93, 94, 95, 96, 71, 31, 383, 384, 385, 386, 398, 399, 400, 401, 402, 403, 404, 405, 406, 407, 408] (by decide +kernel) (by decide +kernel)
set_option maxRecDepth 20000 in
theorem gL_law_X2_resident : GoodIn wsL_law (wsV RL 28 RX2 yX2_resident wsX2_resident) := goodIn_app (goodIn_of _ (by decide +kernel)) ggL_law_X2_resident
set_option maxRecDepth 20000 in
theorem ggL_law_X3_resident : GoodIn wsL_law wsX3_resident := goodIn_r _ [309, 36, 310, 311, 5, 312, 215, 216, 217, 226, 227, 228, 229, 230, 231, 232, 233, 39, 40, 387, 388, 389, 390, 391, 392, 393, 394, 395, 396, 397] (by decide +kernel) (by decide +kernel)
set_option maxRecDepth 20000 in
theorem gL_law_X3_resident : GoodIn wsL_law (wsV RL 32 RX3 yX3_resident wsX3_resident) := goodIn_app (goodIn_of _ (by decide +kernel)) ggL_law_X3_resident
set_option maxRecDepth 20000 in
theorem ggL_law_X2_dirty : GoodIn wsL_law wsX2_dirty := goodIn_r _ [316, 302, 303, 304, 2, 305, 15, 16, 82, 83, 84, 317, 203, 204, 14, 205, 62, 130, 131, 132, 383, 384, 385, 386, 398, 399, 400, 401, 402, 403, 404, 405, 406] (by decide +kernel) (by decide +kernel)
set_option maxRecDepth 20000 in
theorem gL_law_X2_dirty : GoodIn wsL_law (wsV RL 33 RX2 yX2_dirty wsX2_dirty) := goodIn_app (goodIn_of _ (by decide +kernel)) ggL_law_X2_dirty
set_option maxRecDepth 20000 in
theorem ggL_law_X3_dirty : GoodIn wsL_law wsX3_dirty := goodIn_r _ [321, 43, 310, 311, 5, 312, 215, 216, 217, 387, 388, 389, 390, 391, 392, 393, 394, 395, 396, 397] (by decide +kernel) (by decide +kernel)
set_option maxRecDepth 20000 in
theorem gL_law_X3_dirty : GoodIn wsL_law (wsV RL 36 RX3 yX3_dirty wsX3_dirty) := goodIn_app (goodIn_of _ (by decide +kernel)) ggL_law_X3_dirty
set_option maxRecDepth 20000 in
theorem ggL_law_X2_marked : GoodIn wsL_law wsX2_marked := goodIn_r _ [325, 302, 303, 304, 2, 305, 15, 16, 82, 83, 84, 326, 143, 144, 14, 145, 63, 130, 131, 132, 383, 384, 385, 386, 398, 399, 400, 401, 402, 403, 404, 405, 406] (by decide +kernel) (by decide +kernel)
set_option maxRecDepth 20000 in
theorem gL_law_X2_marked : GoodIn wsL_law (wsV RL 37 RX2 yX2_marked wsX2_marked) := goodIn_app (goodIn_of _ (by decide +kernel)) ggL_law_X2_marked
set_option maxRecDepth 20000 in
theorem ggL_law_X3_marked : GoodIn wsL_law wsX3_marked := goodIn_r _ [330, 36, 42, 310, 311, 5, 312, 215, 216, 217, 387, 388, 389, 390, 391, 392, 393, 394, 395, 396, 397] (by decide +kernel) (by decide +kernel)
set_option maxRecDepth 20000 in
theorem gL_law_X3_marked : GoodIn wsL_law (wsV RL 40 RX3 yX3_marked wsX3_marked) := goodIn_app (goodIn_of _ (by decide +kernel)) ggL_law_X3_marked
set_option maxRecDepth 20000 in
theorem ggL_law_X2_row : GoodIn wsL_law wsX2_row := goodIn_r _ [334, 302, 303, 304, 2, 305, 15, 16, 335, 336, 337, 14, 338, 22, 138, 139, 140, 24, 141, 71, 31, 383, 384, 385, 386, 398, 399, 400, 401, 402, 403, 404, 405, 406, 407, 408] (by decide +kernel) (by decide +kernel)
set_option maxRecDepth 20000 in
theorem gL_law_X2_row : GoodIn wsL_law (wsV RL 41 RX2 yX2_row wsX2_row) := goodIn_app (goodIn_of _ (by decide +kernel)) ggL_law_X2_row
set_option maxRecDepth 20000 in
theorem ggL_law_X3_row : GoodIn wsL_law wsX3_row := goodIn_r _ [342, 39, 40, 310, 311, 5, 312, 387, 388, 389, 390, 391, 392, 393, 394, 395, 396, 397] (by decide +kernel) (by decide +kernel)
set_option maxRecDepth 20000 in
theorem gL_law_X3_row : GoodIn wsL_law (wsV RL 45 RX3 yX3_row wsX3_row) := goodIn_app (goodIn_of _ (by decide +kernel)) ggL_law_X3_row
set_option maxRecDepth 20000 in
theorem ggL_law_X2_goal : GoodIn wsL_law wsX2_goal := goodIn_r _ [346, 302, 303, 304, 2, 305, 15, 16, 347, 348, 349, 14, 350, 25, 61, 383, 384, 385, 386, 398, 399, 400, 401, 402, 403, 404, 405, 406] (by decide +kernel) (by decide +kernel)
set_option maxRecDepth 20000 in
theorem gL_law_X2_goal : GoodIn wsL_law (wsV RL 46 RX2 yX2_goal wsX2_goal) := goodIn_app (goodIn_of _ (by decide +kernel)) ggL_law_X2_goal
set_option maxRecDepth 20000 in
theorem ggL_law_X3_goal : GoodIn wsL_law wsX3_goal := goodIn_r _ [354, 36, 38, 310, 311, 5, 312, 387, 388, 389, 390, 391, 392, 393, 394, 395, 396, 397] (by decide +kernel) (by decide +kernel)
set_option maxRecDepth 20000 in
theorem gL_law_X3_goal : GoodIn wsL_law (wsV RL 50 RX3 yX3_goal wsX3_goal) := goodIn_app (goodIn_of _ (by decide +kernel)) ggL_law_X3_goal
set_option maxRecDepth 20000 in
theorem ggL_law_X2_count : GoodIn wsL_law wsX2_count := goodIn_r _ [358, 302, 303, 304, 2, 305, 15, 16, 359, 360, 361, 14, 362, 64, 65, 66, 383, 384, 385, 386, 398, 399, 400, 401, 402, 403, 404, 405, 406] (by decide +kernel) (by decide +kernel)
set_option maxRecDepth 20000 in
theorem gL_law_X2_count : GoodIn wsL_law (wsV RL 51 RX2 yX2_count wsX2_count) := goodIn_app (goodIn_of _ (by decide +kernel)) ggL_law_X2_count
set_option maxRecDepth 20000 in
theorem ggL_law_X3_count : GoodIn wsL_law wsX3_count := goodIn_r _ [366, 44, 310, 311, 5, 312, 387, 388, 389, 390, 391, 392, 393, 394, 395, 396, 397] (by decide +kernel) (by decide +kernel)
set_option maxRecDepth 20000 in
theorem gL_law_X3_count : GoodIn wsL_law (wsV RL 55 RX3 yX3_count wsX3_count) := goodIn_app (goodIn_of _ (by decide +kernel)) ggL_law_X3_count
set_option maxRecDepth 20000 in
theorem ggL_law_X2_reads : GoodIn wsL_law wsX2_reads := goodIn_r _ [370, 49, 383, 384, 385, 386] (by decide +kernel) (by decide +kernel)
set_option maxRecDepth 20000 in
theorem gL_law_X2_reads : GoodIn wsL_law (wsV RL 56 RX2 yX2_reads wsX2_reads) := goodIn_app (goodIn_of _ (by decide +kernel)) ggL_law_X2_reads
set_option maxRecDepth 20000 in
theorem ggL_law_X3_reads : GoodIn wsL_law wsX3_reads := goodIn_r _ [374, 76, 387, 388, 389, 390, 391, 392, 393, 394, 395, 396, 397] (by decide +kernel) (by decide +kernel)
set_option maxRecDepth 20000 in
theorem gL_law_X3_reads : GoodIn wsL_law (wsV RL 59 RX3 yX3_reads wsX3_reads) := goodIn_app (goodIn_of _ (by decide +kernel)) ggL_law_X3_reads
set_option maxRecDepth 20000 in
theorem ggL_law_X2_writes : GoodIn wsL_law wsX2_writes := goodIn_r _ [378, 50, 383, 384, 385, 386] (by decide +kernel) (by decide +kernel)
set_option maxRecDepth 20000 in
theorem gL_law_X2_writes : GoodIn wsL_law (wsV RL 60 RX2 yX2_writes wsX2_writes) := goodIn_app (goodIn_of _ (by decide +kernel)) ggL_law_X2_writes
set_option maxRecDepth 20000 in
theorem ggL_law_X3_writes : GoodIn wsL_law wsX3_writes := goodIn_r _ [382, 77, 387, 388, 389, 390, 391, 392, 393, 394, 395, 396, 397] (by decide +kernel) (by decide +kernel)
set_option maxRecDepth 20000 in
theorem gL_law_X3_writes : GoodIn wsL_law (wsV RL 63 RX3 yX3_writes wsX3_writes) := goodIn_app (goodIn_of _ (by decide +kernel)) ggL_law_X3_writes
theorem dL_law_0 : decode cL_law 0 = .ok (.new 7, 3) := by decide +kernel
theorem dL_law_3 : decode cL_law 3 = .ok (.dup, 1) := by decide +kernel
theorem dL_law_4 : decode cL_law 4 = .ok (.invokespecial 9, 3) := by decide +kernel
theorem dL_law_7 : decode cL_law 7 = .ok (.astore_n 1, 1) := by decide +kernel
theorem dL_law_8 : decode cL_law 8 = .ok (.new 10, 3) := by decide +kernel
theorem dL_law_11 : decode cL_law 11 = .ok (.dup, 1) := by decide +kernel
theorem dL_law_12 : decode cL_law 12 = .ok (.invokespecial 12, 3) := by decide +kernel
theorem dL_law_15 : decode cL_law 15 = .ok (.astore_n 2, 1) := by decide +kernel
theorem dL_law_16 : decode cL_law 16 = .ok (.iconst 0, 1) := by decide +kernel
theorem dL_law_17 : decode cL_law 17 = .ok (.istore_n 3, 1) := by decide +kernel
theorem dL_law_18 : decode cL_law 18 = .ok (.iload_n 3, 1) := by decide +kernel
theorem dL_law_19 : decode cL_law 19 = .ok (.aload_n 0, 1) := by decide +kernel
theorem dL_law_20 : decode cL_law 20 = .ok (.arraylength, 1) := by decide +kernel
theorem dL_law_21 : decode cL_law 21 = .ok (.iconst 5, 1) := by decide +kernel
theorem dL_law_22 : decode cL_law 22 = .ok (.isub, 1) := by decide +kernel
theorem dL_law_23 : decode cL_law 23 = .ok (.if_icmp .gt 414, 3) := by decide +kernel
theorem dL_law_26 : decode cL_law 26 = .ok (.aload_n 0, 1) := by decide +kernel
theorem dL_law_27 : decode cL_law 27 = .ok (.iload_n 3, 1) := by decide +kernel
theorem dL_law_28 : decode cL_law 28 = .ok (.iaload, 1) := by decide +kernel
theorem dL_law_29 : decode cL_law 29 = .ok (.bipush 15, 2) := by decide +kernel
theorem dL_law_31 : decode cL_law 31 = .ok (.iand, 1) := by decide +kernel
theorem dL_law_32 : decode cL_law 32 = .ok (.tableswitch 399 0 10 #[60, 113, 162, 175, 208, 241, 274, 317, 340, 373, 386], 60) := by decide +kernel
theorem dL_law_92 : decode cL_law 92 = .ok (.aload_n 1, 1) := by decide +kernel
theorem dL_law_93 : decode cL_law 93 = .ok (.aload_n 0, 1) := by decide +kernel
theorem dL_law_94 : decode cL_law 94 = .ok (.iload_n 3, 1) := by decide +kernel
theorem dL_law_95 : decode cL_law 95 = .ok (.iconst 1, 1) := by decide +kernel
theorem dL_law_96 : decode cL_law 96 = .ok (.iadd, 1) := by decide +kernel
theorem dL_law_97 : decode cL_law 97 = .ok (.iaload, 1) := by decide +kernel
theorem dL_law_98 : decode cL_law 98 = .ok (.aload_n 0, 1) := by decide +kernel
theorem dL_law_99 : decode cL_law 99 = .ok (.iload_n 3, 1) := by decide +kernel
theorem dL_law_100 : decode cL_law 100 = .ok (.iconst 2, 1) := by decide +kernel
theorem dL_law_101 : decode cL_law 101 = .ok (.iadd, 1) := by decide +kernel
theorem dL_law_102 : decode cL_law 102 = .ok (.iaload, 1) := by decide +kernel
theorem dL_law_103 : decode cL_law 103 = .ok (.aload_n 0, 1) := by decide +kernel
theorem dL_law_104 : decode cL_law 104 = .ok (.iload_n 3, 1) := by decide +kernel
theorem dL_law_105 : decode cL_law 105 = .ok (.iconst 3, 1) := by decide +kernel
theorem dL_law_106 : decode cL_law 106 = .ok (.iadd, 1) := by decide +kernel
theorem dL_law_107 : decode cL_law 107 = .ok (.iaload, 1) := by decide +kernel
theorem dL_law_108 : decode cL_law 108 = .ok (.aload_n 0, 1) := by decide +kernel
theorem dL_law_109 : decode cL_law 109 = .ok (.iload_n 3, 1) := by decide +kernel
theorem dL_law_110 : decode cL_law 110 = .ok (.iconst 4, 1) := by decide +kernel
theorem dL_law_111 : decode cL_law 111 = .ok (.iadd, 1) := by decide +kernel
theorem dL_law_112 : decode cL_law 112 = .ok (.iaload, 1) := by decide +kernel
theorem dL_law_113 : decode cL_law 113 = .ok (.invokevirtual 13, 3) := by decide +kernel
theorem dL_law_116 : decode cL_law 116 = .ok (.aload_n 2, 1) := by decide +kernel
theorem dL_law_117 : decode cL_law 117 = .ok (.aload_n 0, 1) := by decide +kernel
theorem dL_law_118 : decode cL_law 118 = .ok (.iload_n 3, 1) := by decide +kernel
theorem dL_law_119 : decode cL_law 119 = .ok (.iconst 1, 1) := by decide +kernel
theorem dL_law_120 : decode cL_law 120 = .ok (.iadd, 1) := by decide +kernel
theorem dL_law_121 : decode cL_law 121 = .ok (.iaload, 1) := by decide +kernel
theorem dL_law_122 : decode cL_law 122 = .ok (.aload_n 0, 1) := by decide +kernel
theorem dL_law_123 : decode cL_law 123 = .ok (.iload_n 3, 1) := by decide +kernel
theorem dL_law_124 : decode cL_law 124 = .ok (.iconst 2, 1) := by decide +kernel
theorem dL_law_125 : decode cL_law 125 = .ok (.iadd, 1) := by decide +kernel
theorem dL_law_126 : decode cL_law 126 = .ok (.iaload, 1) := by decide +kernel
theorem dL_law_127 : decode cL_law 127 = .ok (.aload_n 0, 1) := by decide +kernel
theorem dL_law_128 : decode cL_law 128 = .ok (.iload_n 3, 1) := by decide +kernel
theorem dL_law_129 : decode cL_law 129 = .ok (.iconst 3, 1) := by decide +kernel
theorem dL_law_130 : decode cL_law 130 = .ok (.iadd, 1) := by decide +kernel
theorem dL_law_131 : decode cL_law 131 = .ok (.iaload, 1) := by decide +kernel
theorem dL_law_132 : decode cL_law 132 = .ok (.aload_n 0, 1) := by decide +kernel
theorem dL_law_133 : decode cL_law 133 = .ok (.iload_n 3, 1) := by decide +kernel
theorem dL_law_134 : decode cL_law 134 = .ok (.iconst 4, 1) := by decide +kernel
theorem dL_law_135 : decode cL_law 135 = .ok (.iadd, 1) := by decide +kernel
theorem dL_law_136 : decode cL_law 136 = .ok (.iaload, 1) := by decide +kernel
theorem dL_law_137 : decode cL_law 137 = .ok (.invokevirtual 17, 3) := by decide +kernel
theorem dL_law_140 : decode cL_law 140 = .ok (.if_icmp .eq 291, 3) := by decide +kernel
theorem dL_law_143 : decode cL_law 143 = .ok (.iconst 0, 1) := by decide +kernel
theorem dL_law_144 : decode cL_law 144 = .ok (.ireturn, 1) := by decide +kernel
theorem dL_law_145 : decode cL_law 145 = .ok (.aload_n 1, 1) := by decide +kernel
theorem dL_law_146 : decode cL_law 146 = .ok (.aload_n 0, 1) := by decide +kernel
theorem dL_law_147 : decode cL_law 147 = .ok (.iload_n 3, 1) := by decide +kernel
theorem dL_law_148 : decode cL_law 148 = .ok (.iconst 1, 1) := by decide +kernel
theorem dL_law_149 : decode cL_law 149 = .ok (.iadd, 1) := by decide +kernel
theorem dL_law_150 : decode cL_law 150 = .ok (.iaload, 1) := by decide +kernel
theorem dL_law_151 : decode cL_law 151 = .ok (.aload_n 0, 1) := by decide +kernel
theorem dL_law_152 : decode cL_law 152 = .ok (.iload_n 3, 1) := by decide +kernel
theorem dL_law_153 : decode cL_law 153 = .ok (.iconst 2, 1) := by decide +kernel
theorem dL_law_154 : decode cL_law 154 = .ok (.iadd, 1) := by decide +kernel
theorem dL_law_155 : decode cL_law 155 = .ok (.iaload, 1) := by decide +kernel
theorem dL_law_156 : decode cL_law 156 = .ok (.ifCond .eq 7, 3) := by decide +kernel
theorem dL_law_159 : decode cL_law 159 = .ok (.iconst 1, 1) := by decide +kernel
theorem dL_law_160 : decode cL_law 160 = .ok (.goto 4, 3) := by decide +kernel
theorem dL_law_163 : decode cL_law 163 = .ok (.iconst 0, 1) := by decide +kernel
theorem dL_law_164 : decode cL_law 164 = .ok (.invokevirtual 18, 3) := by decide +kernel
theorem dL_law_167 : decode cL_law 167 = .ok (.aload_n 2, 1) := by decide +kernel
theorem dL_law_168 : decode cL_law 168 = .ok (.aload_n 0, 1) := by decide +kernel
theorem dL_law_169 : decode cL_law 169 = .ok (.iload_n 3, 1) := by decide +kernel
theorem dL_law_170 : decode cL_law 170 = .ok (.iconst 1, 1) := by decide +kernel
theorem dL_law_171 : decode cL_law 171 = .ok (.iadd, 1) := by decide +kernel
theorem dL_law_172 : decode cL_law 172 = .ok (.iaload, 1) := by decide +kernel
theorem dL_law_173 : decode cL_law 173 = .ok (.aload_n 0, 1) := by decide +kernel
theorem dL_law_174 : decode cL_law 174 = .ok (.iload_n 3, 1) := by decide +kernel
theorem dL_law_175 : decode cL_law 175 = .ok (.iconst 2, 1) := by decide +kernel
theorem dL_law_176 : decode cL_law 176 = .ok (.iadd, 1) := by decide +kernel
theorem dL_law_177 : decode cL_law 177 = .ok (.iaload, 1) := by decide +kernel
theorem dL_law_178 : decode cL_law 178 = .ok (.ifCond .eq 7, 3) := by decide +kernel
theorem dL_law_181 : decode cL_law 181 = .ok (.iconst 1, 1) := by decide +kernel
theorem dL_law_182 : decode cL_law 182 = .ok (.goto 4, 3) := by decide +kernel
theorem dL_law_185 : decode cL_law 185 = .ok (.iconst 0, 1) := by decide +kernel
theorem dL_law_186 : decode cL_law 186 = .ok (.invokevirtual 22, 3) := by decide +kernel
theorem dL_law_189 : decode cL_law 189 = .ok (.if_icmp .eq 242, 3) := by decide +kernel
theorem dL_law_192 : decode cL_law 192 = .ok (.iconst 0, 1) := by decide +kernel
theorem dL_law_193 : decode cL_law 193 = .ok (.ireturn, 1) := by decide +kernel
theorem dL_law_194 : decode cL_law 194 = .ok (.aload_n 1, 1) := by decide +kernel
theorem dL_law_195 : decode cL_law 195 = .ok (.invokevirtual 23, 3) := by decide +kernel
theorem dL_law_198 : decode cL_law 198 = .ok (.aload_n 2, 1) := by decide +kernel
theorem dL_law_199 : decode cL_law 199 = .ok (.invokevirtual 27, 3) := by decide +kernel
theorem dL_law_202 : decode cL_law 202 = .ok (.if_icmp .eq 229, 3) := by decide +kernel
theorem dL_law_205 : decode cL_law 205 = .ok (.iconst 0, 1) := by decide +kernel
theorem dL_law_206 : decode cL_law 206 = .ok (.ireturn, 1) := by decide +kernel
theorem dL_law_207 : decode cL_law 207 = .ok (.aload_n 1, 1) := by decide +kernel
theorem dL_law_208 : decode cL_law 208 = .ok (.aload_n 0, 1) := by decide +kernel
theorem dL_law_209 : decode cL_law 209 = .ok (.iload_n 3, 1) := by decide +kernel
theorem dL_law_210 : decode cL_law 210 = .ok (.iconst 1, 1) := by decide +kernel
theorem dL_law_211 : decode cL_law 211 = .ok (.iadd, 1) := by decide +kernel
theorem dL_law_212 : decode cL_law 212 = .ok (.iaload, 1) := by decide +kernel
theorem dL_law_213 : decode cL_law 213 = .ok (.aload_n 0, 1) := by decide +kernel
theorem dL_law_214 : decode cL_law 214 = .ok (.iload_n 3, 1) := by decide +kernel
theorem dL_law_215 : decode cL_law 215 = .ok (.iconst 2, 1) := by decide +kernel
theorem dL_law_216 : decode cL_law 216 = .ok (.iadd, 1) := by decide +kernel
theorem dL_law_217 : decode cL_law 217 = .ok (.iaload, 1) := by decide +kernel
theorem dL_law_218 : decode cL_law 218 = .ok (.invokevirtual 28, 3) := by decide +kernel
theorem dL_law_221 : decode cL_law 221 = .ok (.aload_n 2, 1) := by decide +kernel
theorem dL_law_222 : decode cL_law 222 = .ok (.aload_n 0, 1) := by decide +kernel
theorem dL_law_223 : decode cL_law 223 = .ok (.iload_n 3, 1) := by decide +kernel
theorem dL_law_224 : decode cL_law 224 = .ok (.iconst 1, 1) := by decide +kernel
theorem dL_law_225 : decode cL_law 225 = .ok (.iadd, 1) := by decide +kernel
theorem dL_law_226 : decode cL_law 226 = .ok (.iaload, 1) := by decide +kernel
theorem dL_law_227 : decode cL_law 227 = .ok (.aload_n 0, 1) := by decide +kernel
theorem dL_law_228 : decode cL_law 228 = .ok (.iload_n 3, 1) := by decide +kernel
theorem dL_law_229 : decode cL_law 229 = .ok (.iconst 2, 1) := by decide +kernel
theorem dL_law_230 : decode cL_law 230 = .ok (.iadd, 1) := by decide +kernel
theorem dL_law_231 : decode cL_law 231 = .ok (.iaload, 1) := by decide +kernel
theorem dL_law_232 : decode cL_law 232 = .ok (.invokevirtual 32, 3) := by decide +kernel
theorem dL_law_235 : decode cL_law 235 = .ok (.if_icmp .eq 196, 3) := by decide +kernel
theorem dL_law_238 : decode cL_law 238 = .ok (.iconst 0, 1) := by decide +kernel
theorem dL_law_239 : decode cL_law 239 = .ok (.ireturn, 1) := by decide +kernel
theorem dL_law_240 : decode cL_law 240 = .ok (.aload_n 1, 1) := by decide +kernel
theorem dL_law_241 : decode cL_law 241 = .ok (.aload_n 0, 1) := by decide +kernel
theorem dL_law_242 : decode cL_law 242 = .ok (.iload_n 3, 1) := by decide +kernel
theorem dL_law_243 : decode cL_law 243 = .ok (.iconst 1, 1) := by decide +kernel
theorem dL_law_244 : decode cL_law 244 = .ok (.iadd, 1) := by decide +kernel
theorem dL_law_245 : decode cL_law 245 = .ok (.iaload, 1) := by decide +kernel
theorem dL_law_246 : decode cL_law 246 = .ok (.aload_n 0, 1) := by decide +kernel
theorem dL_law_247 : decode cL_law 247 = .ok (.iload_n 3, 1) := by decide +kernel
theorem dL_law_248 : decode cL_law 248 = .ok (.iconst 2, 1) := by decide +kernel
theorem dL_law_249 : decode cL_law 249 = .ok (.iadd, 1) := by decide +kernel
theorem dL_law_250 : decode cL_law 250 = .ok (.iaload, 1) := by decide +kernel
theorem dL_law_251 : decode cL_law 251 = .ok (.invokevirtual 33, 3) := by decide +kernel
theorem dL_law_254 : decode cL_law 254 = .ok (.aload_n 2, 1) := by decide +kernel
theorem dL_law_255 : decode cL_law 255 = .ok (.aload_n 0, 1) := by decide +kernel
theorem dL_law_256 : decode cL_law 256 = .ok (.iload_n 3, 1) := by decide +kernel
theorem dL_law_257 : decode cL_law 257 = .ok (.iconst 1, 1) := by decide +kernel
theorem dL_law_258 : decode cL_law 258 = .ok (.iadd, 1) := by decide +kernel
theorem dL_law_259 : decode cL_law 259 = .ok (.iaload, 1) := by decide +kernel
theorem dL_law_260 : decode cL_law 260 = .ok (.aload_n 0, 1) := by decide +kernel
theorem dL_law_261 : decode cL_law 261 = .ok (.iload_n 3, 1) := by decide +kernel
theorem dL_law_262 : decode cL_law 262 = .ok (.iconst 2, 1) := by decide +kernel
theorem dL_law_263 : decode cL_law 263 = .ok (.iadd, 1) := by decide +kernel
theorem dL_law_264 : decode cL_law 264 = .ok (.iaload, 1) := by decide +kernel
theorem dL_law_265 : decode cL_law 265 = .ok (.invokevirtual 36, 3) := by decide +kernel
theorem dL_law_268 : decode cL_law 268 = .ok (.if_icmp .eq 163, 3) := by decide +kernel
theorem dL_law_271 : decode cL_law 271 = .ok (.iconst 0, 1) := by decide +kernel
theorem dL_law_272 : decode cL_law 272 = .ok (.ireturn, 1) := by decide +kernel
theorem dL_law_273 : decode cL_law 273 = .ok (.aload_n 1, 1) := by decide +kernel
theorem dL_law_274 : decode cL_law 274 = .ok (.aload_n 0, 1) := by decide +kernel
theorem dL_law_275 : decode cL_law 275 = .ok (.iload_n 3, 1) := by decide +kernel
theorem dL_law_276 : decode cL_law 276 = .ok (.iconst 1, 1) := by decide +kernel
theorem dL_law_277 : decode cL_law 277 = .ok (.iadd, 1) := by decide +kernel
theorem dL_law_278 : decode cL_law 278 = .ok (.iaload, 1) := by decide +kernel
theorem dL_law_279 : decode cL_law 279 = .ok (.aload_n 0, 1) := by decide +kernel
theorem dL_law_280 : decode cL_law 280 = .ok (.iload_n 3, 1) := by decide +kernel
theorem dL_law_281 : decode cL_law 281 = .ok (.iconst 2, 1) := by decide +kernel
theorem dL_law_282 : decode cL_law 282 = .ok (.iadd, 1) := by decide +kernel
theorem dL_law_283 : decode cL_law 283 = .ok (.iaload, 1) := by decide +kernel
theorem dL_law_284 : decode cL_law 284 = .ok (.invokevirtual 37, 3) := by decide +kernel
theorem dL_law_287 : decode cL_law 287 = .ok (.aload_n 2, 1) := by decide +kernel
theorem dL_law_288 : decode cL_law 288 = .ok (.aload_n 0, 1) := by decide +kernel
theorem dL_law_289 : decode cL_law 289 = .ok (.iload_n 3, 1) := by decide +kernel
theorem dL_law_290 : decode cL_law 290 = .ok (.iconst 1, 1) := by decide +kernel
theorem dL_law_291 : decode cL_law 291 = .ok (.iadd, 1) := by decide +kernel
theorem dL_law_292 : decode cL_law 292 = .ok (.iaload, 1) := by decide +kernel
theorem dL_law_293 : decode cL_law 293 = .ok (.aload_n 0, 1) := by decide +kernel
theorem dL_law_294 : decode cL_law 294 = .ok (.iload_n 3, 1) := by decide +kernel
theorem dL_law_295 : decode cL_law 295 = .ok (.iconst 2, 1) := by decide +kernel
theorem dL_law_296 : decode cL_law 296 = .ok (.iadd, 1) := by decide +kernel
theorem dL_law_297 : decode cL_law 297 = .ok (.iaload, 1) := by decide +kernel
theorem dL_law_298 : decode cL_law 298 = .ok (.invokevirtual 40, 3) := by decide +kernel
theorem dL_law_301 : decode cL_law 301 = .ok (.if_icmp .eq 130, 3) := by decide +kernel
theorem dL_law_304 : decode cL_law 304 = .ok (.iconst 0, 1) := by decide +kernel
theorem dL_law_305 : decode cL_law 305 = .ok (.ireturn, 1) := by decide +kernel
theorem dL_law_306 : decode cL_law 306 = .ok (.aload_n 1, 1) := by decide +kernel
theorem dL_law_307 : decode cL_law 307 = .ok (.aload_n 0, 1) := by decide +kernel
theorem dL_law_308 : decode cL_law 308 = .ok (.iload_n 3, 1) := by decide +kernel
theorem dL_law_309 : decode cL_law 309 = .ok (.iconst 1, 1) := by decide +kernel
theorem dL_law_310 : decode cL_law 310 = .ok (.iadd, 1) := by decide +kernel
theorem dL_law_311 : decode cL_law 311 = .ok (.iaload, 1) := by decide +kernel
theorem dL_law_312 : decode cL_law 312 = .ok (.aload_n 0, 1) := by decide +kernel
theorem dL_law_313 : decode cL_law 313 = .ok (.iload_n 3, 1) := by decide +kernel
theorem dL_law_314 : decode cL_law 314 = .ok (.iconst 2, 1) := by decide +kernel
theorem dL_law_315 : decode cL_law 315 = .ok (.iadd, 1) := by decide +kernel
theorem dL_law_316 : decode cL_law 316 = .ok (.iaload, 1) := by decide +kernel
theorem dL_law_317 : decode cL_law 317 = .ok (.aload_n 0, 1) := by decide +kernel
theorem dL_law_318 : decode cL_law 318 = .ok (.iload_n 3, 1) := by decide +kernel
theorem dL_law_319 : decode cL_law 319 = .ok (.iconst 3, 1) := by decide +kernel
theorem dL_law_320 : decode cL_law 320 = .ok (.iadd, 1) := by decide +kernel
theorem dL_law_321 : decode cL_law 321 = .ok (.iaload, 1) := by decide +kernel
theorem dL_law_322 : decode cL_law 322 = .ok (.invokevirtual 41, 3) := by decide +kernel
theorem dL_law_325 : decode cL_law 325 = .ok (.aload_n 2, 1) := by decide +kernel
theorem dL_law_326 : decode cL_law 326 = .ok (.aload_n 0, 1) := by decide +kernel
theorem dL_law_327 : decode cL_law 327 = .ok (.iload_n 3, 1) := by decide +kernel
theorem dL_law_328 : decode cL_law 328 = .ok (.iconst 1, 1) := by decide +kernel
theorem dL_law_329 : decode cL_law 329 = .ok (.iadd, 1) := by decide +kernel
theorem dL_law_330 : decode cL_law 330 = .ok (.iaload, 1) := by decide +kernel
theorem dL_law_331 : decode cL_law 331 = .ok (.aload_n 0, 1) := by decide +kernel
theorem dL_law_332 : decode cL_law 332 = .ok (.iload_n 3, 1) := by decide +kernel
theorem dL_law_333 : decode cL_law 333 = .ok (.iconst 2, 1) := by decide +kernel
theorem dL_law_334 : decode cL_law 334 = .ok (.iadd, 1) := by decide +kernel
theorem dL_law_335 : decode cL_law 335 = .ok (.iaload, 1) := by decide +kernel
theorem dL_law_336 : decode cL_law 336 = .ok (.aload_n 0, 1) := by decide +kernel
theorem dL_law_337 : decode cL_law 337 = .ok (.iload_n 3, 1) := by decide +kernel
theorem dL_law_338 : decode cL_law 338 = .ok (.iconst 3, 1) := by decide +kernel
theorem dL_law_339 : decode cL_law 339 = .ok (.iadd, 1) := by decide +kernel
theorem dL_law_340 : decode cL_law 340 = .ok (.iaload, 1) := by decide +kernel
theorem dL_law_341 : decode cL_law 341 = .ok (.invokevirtual 45, 3) := by decide +kernel
theorem dL_law_344 : decode cL_law 344 = .ok (.if_icmp .eq 87, 3) := by decide +kernel
theorem dL_law_347 : decode cL_law 347 = .ok (.iconst 0, 1) := by decide +kernel
theorem dL_law_348 : decode cL_law 348 = .ok (.ireturn, 1) := by decide +kernel
theorem dL_law_349 : decode cL_law 349 = .ok (.aload_n 1, 1) := by decide +kernel
theorem dL_law_350 : decode cL_law 350 = .ok (.aload_n 0, 1) := by decide +kernel
theorem dL_law_351 : decode cL_law 351 = .ok (.iload_n 3, 1) := by decide +kernel
theorem dL_law_352 : decode cL_law 352 = .ok (.iconst 1, 1) := by decide +kernel
theorem dL_law_353 : decode cL_law 353 = .ok (.iadd, 1) := by decide +kernel
theorem dL_law_354 : decode cL_law 354 = .ok (.iaload, 1) := by decide +kernel
theorem dL_law_355 : decode cL_law 355 = .ok (.invokevirtual 46, 3) := by decide +kernel
theorem dL_law_358 : decode cL_law 358 = .ok (.aload_n 2, 1) := by decide +kernel
theorem dL_law_359 : decode cL_law 359 = .ok (.aload_n 0, 1) := by decide +kernel
theorem dL_law_360 : decode cL_law 360 = .ok (.iload_n 3, 1) := by decide +kernel
theorem dL_law_361 : decode cL_law 361 = .ok (.iconst 1, 1) := by decide +kernel
theorem dL_law_362 : decode cL_law 362 = .ok (.iadd, 1) := by decide +kernel
theorem dL_law_363 : decode cL_law 363 = .ok (.iaload, 1) := by decide +kernel
theorem dL_law_364 : decode cL_law 364 = .ok (.invokevirtual 50, 3) := by decide +kernel
theorem dL_law_367 : decode cL_law 367 = .ok (.if_icmp .eq 64, 3) := by decide +kernel
theorem dL_law_370 : decode cL_law 370 = .ok (.iconst 0, 1) := by decide +kernel
theorem dL_law_371 : decode cL_law 371 = .ok (.ireturn, 1) := by decide +kernel
theorem dL_law_372 : decode cL_law 372 = .ok (.aload_n 1, 1) := by decide +kernel
theorem dL_law_373 : decode cL_law 373 = .ok (.aload_n 0, 1) := by decide +kernel
theorem dL_law_374 : decode cL_law 374 = .ok (.iload_n 3, 1) := by decide +kernel
theorem dL_law_375 : decode cL_law 375 = .ok (.iconst 1, 1) := by decide +kernel
theorem dL_law_376 : decode cL_law 376 = .ok (.iadd, 1) := by decide +kernel
theorem dL_law_377 : decode cL_law 377 = .ok (.iaload, 1) := by decide +kernel
theorem dL_law_378 : decode cL_law 378 = .ok (.aload_n 0, 1) := by decide +kernel
theorem dL_law_379 : decode cL_law 379 = .ok (.iload_n 3, 1) := by decide +kernel
theorem dL_law_380 : decode cL_law 380 = .ok (.iconst 2, 1) := by decide +kernel
theorem dL_law_381 : decode cL_law 381 = .ok (.iadd, 1) := by decide +kernel
theorem dL_law_382 : decode cL_law 382 = .ok (.iaload, 1) := by decide +kernel
theorem dL_law_383 : decode cL_law 383 = .ok (.invokevirtual 51, 3) := by decide +kernel
theorem dL_law_386 : decode cL_law 386 = .ok (.aload_n 2, 1) := by decide +kernel
theorem dL_law_387 : decode cL_law 387 = .ok (.aload_n 0, 1) := by decide +kernel
theorem dL_law_388 : decode cL_law 388 = .ok (.iload_n 3, 1) := by decide +kernel
theorem dL_law_389 : decode cL_law 389 = .ok (.iconst 1, 1) := by decide +kernel
theorem dL_law_390 : decode cL_law 390 = .ok (.iadd, 1) := by decide +kernel
theorem dL_law_391 : decode cL_law 391 = .ok (.iaload, 1) := by decide +kernel
theorem dL_law_392 : decode cL_law 392 = .ok (.aload_n 0, 1) := by decide +kernel
theorem dL_law_393 : decode cL_law 393 = .ok (.iload_n 3, 1) := by decide +kernel
theorem dL_law_394 : decode cL_law 394 = .ok (.iconst 2, 1) := by decide +kernel
theorem dL_law_395 : decode cL_law 395 = .ok (.iadd, 1) := by decide +kernel
theorem dL_law_396 : decode cL_law 396 = .ok (.iaload, 1) := by decide +kernel
theorem dL_law_397 : decode cL_law 397 = .ok (.invokevirtual 55, 3) := by decide +kernel
theorem dL_law_400 : decode cL_law 400 = .ok (.if_icmp .eq 31, 3) := by decide +kernel
theorem dL_law_403 : decode cL_law 403 = .ok (.iconst 0, 1) := by decide +kernel
theorem dL_law_404 : decode cL_law 404 = .ok (.ireturn, 1) := by decide +kernel
theorem dL_law_405 : decode cL_law 405 = .ok (.aload_n 1, 1) := by decide +kernel
theorem dL_law_406 : decode cL_law 406 = .ok (.invokevirtual 56, 3) := by decide +kernel
theorem dL_law_409 : decode cL_law 409 = .ok (.aload_n 2, 1) := by decide +kernel
theorem dL_law_410 : decode cL_law 410 = .ok (.invokevirtual 59, 3) := by decide +kernel
theorem dL_law_413 : decode cL_law 413 = .ok (.if_icmp .eq 18, 3) := by decide +kernel
theorem dL_law_416 : decode cL_law 416 = .ok (.iconst 0, 1) := by decide +kernel
theorem dL_law_417 : decode cL_law 417 = .ok (.ireturn, 1) := by decide +kernel
theorem dL_law_418 : decode cL_law 418 = .ok (.aload_n 1, 1) := by decide +kernel
theorem dL_law_419 : decode cL_law 419 = .ok (.invokevirtual 60, 3) := by decide +kernel
theorem dL_law_422 : decode cL_law 422 = .ok (.aload_n 2, 1) := by decide +kernel
theorem dL_law_423 : decode cL_law 423 = .ok (.invokevirtual 63, 3) := by decide +kernel
theorem dL_law_426 : decode cL_law 426 = .ok (.if_icmp .eq 5, 3) := by decide +kernel
theorem dL_law_429 : decode cL_law 429 = .ok (.iconst 0, 1) := by decide +kernel
theorem dL_law_430 : decode cL_law 430 = .ok (.ireturn, 1) := by decide +kernel
theorem dL_law_431 : decode cL_law 431 = .ok (.iinc 3 5, 3) := by decide +kernel
theorem dL_law_434 : decode cL_law 434 = .ok (.goto (-416), 3) := by decide +kernel
theorem dL_law_437 : decode cL_law 437 = .ok (.iconst 1, 1) := by decide +kernel
theorem dL_law_438 : decode cL_law 438 = .ok (.ireturn, 1) := by decide +kernel
end
section
/-! THE LAYER. gX: all that stays fixed in a walk; gT: the tables' numbers; VG: 'from every heap that holds ws the machine at pc comes to its end'. -/
abbrev gX : Type := Program × Env × State × MethodId × Array Value × List Frame × Method × Code × (Nat → Prop) × (State → Prop)
abbrev gT : Type := va_G × ClassId × ClassId × ClassId
def gTy (K : gT) : List (ClassId × FieldType) := [(K.2.1, .int), (K.2.2.1, .boolean), (K.2.2.2, .object RX0)]
def gK (K : gT) (U : State) : Prop := va_K K.1 vwCl (gTy K) U ∧ va_AO RX0 U ∧ va_Nw (.methodLinkNest RX1 17 yX0_init "TwoTierCache") U
theorem gK.warm {K : gT} {u U : State} (hW : u.WarmedH U.vm) (h : gK K u) : gK K U := ⟨va_K.moved hW.alike h.1, va_AO.moved hW.alike h.2.1, va_Nw.warmM hW h.2.2⟩
theorem gK.same {K : gT} {u U : State} (hvm : u.vm = U.vm) (h : gK K u) : gK K U := ⟨va_K.moved (by rw [hvm]; exact Vm.Alike.refl _) h.1, va_AO.moved (by rw [hvm]; exact Vm.Alike.refl _) h.2.1, va_Nw.same rfl hvm h.2.2⟩
def VG (X : gX) (l : Launch) (R : Room) (K : gT) (nL : Nat) (k n : Nat) (ws : va_W) (lv : List (Nat × Value)) (stk : List Value) (pc : Nat) : Prop := match X with
  | (p, e, s, m, args, below, meth, c, A, Q) => ∀ (H : Heap) (locs : List Loc) (ls : Array Slot), va_P K.1 vwCl ws H → va_D A ws → va_S A s.heap H locs → lv_has ls nL lv → W p l e R s m args below meth c H locs k n Q (F0 m pc ls stk)
def gOK (X : gX) (K : gT) (nL : Nat) (cc : ByteArray) (own : String) (Ts : List Cond) : Prop := match X with
  | (p, e, s, m, args, below, meth, c, A, Q) => p.tables.exec = Jvm.exec ∧ c.code = cc ∧ c.maxLocals = nL ∧ s.vm.findClass own = some m.cls ∧ (∀ w ∈ Ts, ∃ a, a = args ∧ w.before a s = true) ∧ gK K s ∧ (∀ q : Nat, s.heap.size ≤ q → A q)
def gIn (X : gX) : Prop := match X with | (p, e, s, m, args, below, meth, c, A, Q) => meth.name = "<init>"
def gPre (K : gT) (As : List Value) (ws0 : va_W) (sz : Nat) : Array Value → State → Prop := va_Pc As (fun U => U.heap.size = sz ∧ va_P K.1 vwCl ws0 U.heap ∧ gK K U ∧ va_D (fun _ => True) ws0)
theorem gPre.blind (K : gT) (As : List Value) (ws0 : va_W) (sz : Nat) : FrameBlind (gPre K As ws0 sz) := fun a U g mk q => by
  obtain ⟨q0, q1, qP, qK, qD⟩ := q
  exact ⟨q0, q1, qP, gK.same (u := U) (U := U.calling g mk a) rfl qK, qD⟩
def gB {S : Type} (K : gT) (ws0 : va_W) (sz : Nat) (Wd : S → va_W) : S → State → Prop := fun u t => va_P K.1 vwCl (Wd u) t.heap ∧ gK K t ∧ va_D (va_A ws0 sz) (Wd u)
/-- contracts: a method that returns an int, a boolean ..; post: what is known of the answer and of the new state u; Wd u: the cells behind it -/
def Ci {S : Type} (l : Launch) (y : MethodName) (wsl : List Cond) (rm : Room) (K : gT) (As : List Value) (ws0 : va_W) (post : Int32 → S → Prop) (Wd : S → va_W) (mc ms : Nat) : Prop := ∀ sz : Nat, Met l y wsl rm (gPre K As ws0 sz) (va_Qi post (gB K ws0 sz Wd) (va_A ws0 sz)) mc ms (va_A ws0 sz)
def Cl {S : Type} (l : Launch) (y : MethodName) (wsl : List Cond) (rm : Room) (K : gT) (As : List Value) (ws0 : va_W) (post : Int64 → S → Prop) (Wd : S → va_W) (mc ms : Nat) : Prop := ∀ sz : Nat, Met l y wsl rm (gPre K As ws0 sz) (va_Ql post (gB K ws0 sz Wd) (va_A ws0 sz)) mc ms (va_A ws0 sz)
def Cv {S : Type} (l : Launch) (y : MethodName) (wsl : List Cond) (rm : Room) (K : gT) (As : List Value) (ws0 : va_W) (post : S → Prop) (Wd : S → va_W) (mc ms : Nat) : Prop := ∀ sz : Nat, Met l y wsl rm (gPre K As ws0 sz) (va_Qv post (gB K ws0 sz Wd) (va_A ws0 sz)) mc ms (va_A ws0 sz)
def Cq {S : Type} (l : Launch) (y : MethodName) (wsl : List Cond) (rm : Room) (K : gT) (As : List Value) (ws0 : va_W) (post : Option Nat → S → Prop) (Wd : S → va_W) (mc ms : Nat) : Prop := ∀ sz : Nat, Met l y wsl rm (gPre K As ws0 sz) (va_Qq post (gB K ws0 sz Wd) (va_A ws0 sz)) mc ms (va_A ws0 sz)
def bI (b : Bool) : Int32 := if b = true then 1 else 0
def pI (o : Option Nat) : Int32 := match o with | none => -1 | some p => nI p
section GR
variable {X : gX} {l : Launch} {R : Room} {K : gT} {nL k n : Nat} {ws : va_W} {lv : List (Nat × Value)} {stk : List Value} {pc : Nat} {cc : ByteArray} {own : String} {Ts : List Cond}

theorem g_iload_n (hX : gOK X K nL cc own Ts) {j : Fin 4} {i : Nat} {x : Int32} (hd : decode cc pc = .ok (.iload_n j, 1)) (hi : (j : Nat) = i) (z : Nat) (hk : lv[z]? = some (i, .int x)) (kk : VG X l R K nL k n ws lv (.int x :: stk) (pc + 1)) : VG X l R K nL k n ws lv stk pc := by
  obtain ⟨p, e, s, m, args, below, meth, c, A, Q⟩ := X
  obtain ⟨hx, hb, hml, hown, hts0, hK, hA⟩ := hX
  have hts : ∀ w ∈ Ts, w.before args s = true := fun w hw => by
    obtain ⟨a, ha, h⟩ := hts0 w hw
    rw [ha] at h
    exact h
  intro H locs ls hP hD hS hl
  exact lv_iload_n hx hb hd hi (lv_at hl z hk) (kk H locs ls hP hD hS hl)
theorem g_iload (hX : gOK X K nL cc own Ts) {i : Nat} {x : Int32} (hd : decode cc pc = .ok (.iload i, 2)) (z : Nat) (hk : lv[z]? = some (i, .int x)) (kk : VG X l R K nL k n ws lv (.int x :: stk) (pc + 2)) : VG X l R K nL k n ws lv stk pc := by
  obtain ⟨p, e, s, m, args, below, meth, c, A, Q⟩ := X
  obtain ⟨hx, hb, hml, hown, hts0, hK, hA⟩ := hX
  have hts : ∀ w ∈ Ts, w.before args s = true := fun w hw => by
    obtain ⟨a, ha, h⟩ := hts0 w hw
    rw [ha] at h
    exact h
  intro H locs ls hP hD hS hl
  exact lv_iload hx hb hd (lv_at hl z hk) (kk H locs ls hP hD hS hl)
theorem g_lload_n (hX : gOK X K nL cc own Ts) {j : Fin 4} {i : Nat} {x : Int64} (hd : decode cc pc = .ok (.lload_n j, 1)) (hi : (j : Nat) = i) (z : Nat) (hk : lv[z]? = some (i, .long x)) (kk : VG X l R K nL k n ws lv (.long x :: stk) (pc + 1)) : VG X l R K nL k n ws lv stk pc := by
  obtain ⟨p, e, s, m, args, below, meth, c, A, Q⟩ := X
  obtain ⟨hx, hb, hml, hown, hts0, hK, hA⟩ := hX
  have hts : ∀ w ∈ Ts, w.before args s = true := fun w hw => by
    obtain ⟨a, ha, h⟩ := hts0 w hw
    rw [ha] at h
    exact h
  intro H locs ls hP hD hS hl
  exact lv_lload_n hx hb hd hi (lv_at hl z hk) (kk H locs ls hP hD hS hl)
theorem g_aload_n (hX : gOK X K nL cc own Ts) {j : Fin 4} {i : Nat} {x : Nat} (hd : decode cc pc = .ok (.aload_n j, 1)) (hi : (j : Nat) = i) (z : Nat) (hk : lv[z]? = some (i, .ref x)) (kk : VG X l R K nL k n ws lv (.ref x :: stk) (pc + 1)) : VG X l R K nL k n ws lv stk pc := by
  obtain ⟨p, e, s, m, args, below, meth, c, A, Q⟩ := X
  obtain ⟨hx, hb, hml, hown, hts0, hK, hA⟩ := hX
  have hts : ∀ w ∈ Ts, w.before args s = true := fun w hw => by
    obtain ⟨a, ha, h⟩ := hts0 w hw
    rw [ha] at h
    exact h
  intro H locs ls hP hD hS hl
  exact lv_aload_n hx hb hd hi (lv_at hl z hk) (kk H locs ls hP hD hS hl)
theorem g_aload (hX : gOK X K nL cc own Ts) {i : Nat} {x : Nat} (hd : decode cc pc = .ok (.aload i, 2)) (z : Nat) (hk : lv[z]? = some (i, .ref x)) (kk : VG X l R K nL k n ws lv (.ref x :: stk) (pc + 2)) : VG X l R K nL k n ws lv stk pc := by
  obtain ⟨p, e, s, m, args, below, meth, c, A, Q⟩ := X
  obtain ⟨hx, hb, hml, hown, hts0, hK, hA⟩ := hX
  have hts : ∀ w ∈ Ts, w.before args s = true := fun w hw => by
    obtain ⟨a, ha, h⟩ := hts0 w hw
    rw [ha] at h
    exact h
  intro H locs ls hP hD hS hl
  exact lv_aload hx hb hd (lv_at hl z hk) (kk H locs ls hP hD hS hl)
theorem g_aloadN_n (hX : gOK X K nL cc own Ts) {j : Fin 4} {i : Nat} (hd : decode cc pc = .ok (.aload_n j, 1)) (hi : (j : Nat) = i) (z : Nat) (hk : lv[z]? = some (i, .null)) (kk : VG X l R K nL k n ws lv (.null :: stk) (pc + 1)) : VG X l R K nL k n ws lv stk pc := by
  obtain ⟨p, e, s, m, args, below, meth, c, A, Q⟩ := X
  obtain ⟨hx, hb, hml, hown, hts0, hK, hA⟩ := hX
  have hts : ∀ w ∈ Ts, w.before args s = true := fun w hw => by
    obtain ⟨a, ha, h⟩ := hts0 w hw
    rw [ha] at h
    exact h
  intro H locs ls hP hD hS hl
  exact lv_aload_nN hx hb hd hi (lv_at hl z hk) (kk H locs ls hP hD hS hl)
theorem g_aloadN (hX : gOK X K nL cc own Ts) {i : Nat} (hd : decode cc pc = .ok (.aload i, 2)) (z : Nat) (hk : lv[z]? = some (i, .null)) (kk : VG X l R K nL k n ws lv (.null :: stk) (pc + 2)) : VG X l R K nL k n ws lv stk pc := by
  obtain ⟨p, e, s, m, args, below, meth, c, A, Q⟩ := X
  obtain ⟨hx, hb, hml, hown, hts0, hK, hA⟩ := hX
  have hts : ∀ w ∈ Ts, w.before args s = true := fun w hw => by
    obtain ⟨a, ha, h⟩ := hts0 w hw
    rw [ha] at h
    exact h
  intro H locs ls hP hD hS hl
  exact lv_aloadN hx hb hd (lv_at hl z hk) (kk H locs ls hP hD hS hl)
theorem g_istore_n (hX : gOK X K nL cc own Ts) {j : Fin 4} {i : Nat} {x : Int32} {lv' : List (Nat × Value)} (hd : decode cc pc = .ok (.istore_n j, 1)) (hi : (j : Nat) = i) (hn : i < nL) (hl2 : (i, Value.int x) :: lv.filter (fun q => !(q.1 == i) && !(q.1 + 1 == i && q.2.category == 2)) = lv') (kk : VG X l R K nL k n ws lv' stk (pc + 1)) : VG X l R K nL k n ws lv (Value.int x :: stk) pc := by
  obtain ⟨p, e, s, m, args, below, meth, c, A, Q⟩ := X
  obtain ⟨hx, hb, hml, hown, hts0, hK, hA⟩ := hX
  have hts : ∀ w ∈ Ts, w.before args s = true := fun w hw => by
    obtain ⟨a, ha, h⟩ := hts0 w hw
    rw [ha] at h
    exact h
  intro H locs ls hP hD hS hl
  exact lv_istore_n hx hb hd hi hl hn hl2 (fun ls hl => kk H locs ls hP hD hS hl)
theorem g_istore (hX : gOK X K nL cc own Ts) {i : Nat} {x : Int32} {lv' : List (Nat × Value)} (hd : decode cc pc = .ok (.istore i, 2)) (hn : i < nL) (hl2 : (i, Value.int x) :: lv.filter (fun q => !(q.1 == i) && !(q.1 + 1 == i && q.2.category == 2)) = lv') (kk : VG X l R K nL k n ws lv' stk (pc + 2)) : VG X l R K nL k n ws lv (Value.int x :: stk) pc := by
  obtain ⟨p, e, s, m, args, below, meth, c, A, Q⟩ := X
  obtain ⟨hx, hb, hml, hown, hts0, hK, hA⟩ := hX
  have hts : ∀ w ∈ Ts, w.before args s = true := fun w hw => by
    obtain ⟨a, ha, h⟩ := hts0 w hw
    rw [ha] at h
    exact h
  intro H locs ls hP hD hS hl
  exact lv_istore hx hb hd hl hn hl2 (fun ls hl => kk H locs ls hP hD hS hl)
theorem g_astore_n (hX : gOK X K nL cc own Ts) {j : Fin 4} {i : Nat} {x : Nat} {lv' : List (Nat × Value)} (hd : decode cc pc = .ok (.astore_n j, 1)) (hi : (j : Nat) = i) (hn : i < nL) (hl2 : (i, Value.ref x) :: lv.filter (fun q => !(q.1 == i) && !(q.1 + 1 == i && q.2.category == 2)) = lv') (kk : VG X l R K nL k n ws lv' stk (pc + 1)) : VG X l R K nL k n ws lv (Value.ref x :: stk) pc := by
  obtain ⟨p, e, s, m, args, below, meth, c, A, Q⟩ := X
  obtain ⟨hx, hb, hml, hown, hts0, hK, hA⟩ := hX
  have hts : ∀ w ∈ Ts, w.before args s = true := fun w hw => by
    obtain ⟨a, ha, h⟩ := hts0 w hw
    rw [ha] at h
    exact h
  intro H locs ls hP hD hS hl
  exact lv_astore_n hx hb hd hi hl hn hl2 (fun ls hl => kk H locs ls hP hD hS hl)
theorem g_astore (hX : gOK X K nL cc own Ts) {i : Nat} {x : Nat} {lv' : List (Nat × Value)} (hd : decode cc pc = .ok (.astore i, 2)) (hn : i < nL) (hl2 : (i, Value.ref x) :: lv.filter (fun q => !(q.1 == i) && !(q.1 + 1 == i && q.2.category == 2)) = lv') (kk : VG X l R K nL k n ws lv' stk (pc + 2)) : VG X l R K nL k n ws lv (Value.ref x :: stk) pc := by
  obtain ⟨p, e, s, m, args, below, meth, c, A, Q⟩ := X
  obtain ⟨hx, hb, hml, hown, hts0, hK, hA⟩ := hX
  have hts : ∀ w ∈ Ts, w.before args s = true := fun w hw => by
    obtain ⟨a, ha, h⟩ := hts0 w hw
    rw [ha] at h
    exact h
  intro H locs ls hP hD hS hl
  exact lv_astore hx hb hd hl hn hl2 (fun ls hl => kk H locs ls hP hD hS hl)
theorem g_sub (z : List Nat) {lv' : List (Nat × Value)} (hz : lv_pick lv z = lv') (kk : VG X l R K nL k n ws lv' stk pc) : VG X l R K nL k n ws lv stk pc := by
  obtain ⟨p, e, s, m, args, below, meth, c, A, Q⟩ := X
  intro H locs ls hP hD hS hl
  exact kk H locs ls hP hD hS (lv_sub hl z hz)
theorem g_ws {ws' : va_W} (h : ws = ws') (kk : VG X l R K nL k n ws' lv stk pc) : VG X l R K nL k n ws lv stk pc := by subst h; exact kk
theorem g_perm (ps : List Nat) {ws' : va_W} (hn : va_nd ps = true) (h : ps.map (fun i => ws[i]?) = ws'.map some) (kk : VG X l R K nL k n ws' lv stk pc) : VG X l R K nL k n ws lv stk pc := by
  obtain ⟨p, e, s, m, args, below, meth, c, A, Q⟩ := X
  intro H locs ls hP hD hS hl
  refine kk H locs ls (hP.sub ps ?_) (hD.sub ps hn h) hS hl
  have h2 : ∀ (ps : List Nat) (ws' : va_W), ps.map (fun i => ws[i]?) = ws'.map some → ps.filterMap (fun i => ws[i]?) = ws' := by
    intro ps
    induction ps with
    | nil => intro ws' h; cases ws' with | nil => rfl | cons a b => simp at h
    | cons i is ih =>
      intro ws' h
      cases ws' with
      | nil => simp at h
      | cons a b =>
        simp only [List.map_cons, List.cons.injEq] at h
        rw [List.filterMap_cons, h.1]
        simp only [ih b h.2]
  exact h2 ps ws' h
theorem g_widen {k' n' : Nat} (h1 : k ≤ k') (h2 : n ≤ n') (kk : VG X l R K nL k' n' ws lv stk pc) : VG X l R K nL k n ws lv stk pc := by
  obtain ⟨p, e, s, m, args, below, meth, c, A, Q⟩ := X
  intro H locs ls hP hD hS hl
  exact W.widen h1 h2 (kk H locs ls hP hD hS hl)
theorem g_top {x y : Int32} (h : x = y) (kk : VG X l R K nL k n ws lv (.int y :: stk) pc) : VG X l R K nL k n ws lv (.int x :: stk) pc := by subst h; exact kk
theorem g_topl {x y : Int64} (h : x = y) (kk : VG X l R K nL k n ws lv (.long y :: stk) pc) : VG X l R K nL k n ws lv (.long x :: stk) pc := by subst h; exact kk
theorem g_lv {lv' : List (Nat × Value)} (h : lv = lv') (kk : VG X l R K nL k n ws lv' stk pc) : VG X l R K nL k n ws lv stk pc := by subst h; exact kk
theorem g_apart (kk : (∀ (i j : Nat) (p q : Nat × va_E), ws[i]? = some p → ws[j]? = some q → p.1 = q.1 → i = j) → VG X l R K nL k n ws lv stk pc) : VG X l R K nL k n ws lv stk pc := by
  obtain ⟨p, e, s, m, args, below, meth, c, A, Q⟩ := X
  intro H locs ls hP hD hS hl
  exact kk hD.1 H locs ls hP hD hS hl

theorem g_iconst (hX : gOK X K nL cc own Ts) {i : Int} {v : Int32} (hd : decode cc pc = .ok (.iconst i, 1)) (hv : Int32.ofInt i = v) (kk : VG X l R K nL k n ws lv (.int v :: stk) (pc + 1)) : VG X l R K nL k n ws lv stk pc := by
  obtain ⟨p, e, s, m, args, below, meth, c, A, Q⟩ := X
  obtain ⟨hx, hb, hml, hown, hts0, hK, hA⟩ := hX
  have hts : ∀ w ∈ Ts, w.before args s = true := fun w hw => by
    obtain ⟨a, ha, h⟩ := hts0 w hw
    rw [ha] at h
    exact h
  intro H locs ls hP hD hS hl
  exact lv_iconst hx hb hd hv (kk H locs ls hP hD hS hl)
theorem g_bipush (hX : gOK X K nL cc own Ts) {i : Int} {v : Int32} (hd : decode cc pc = .ok (.bipush i, 2)) (hv : (Int8.ofInt i).toInt32 = v) (kk : VG X l R K nL k n ws lv (.int v :: stk) (pc + 2)) : VG X l R K nL k n ws lv stk pc := by
  obtain ⟨p, e, s, m, args, below, meth, c, A, Q⟩ := X
  obtain ⟨hx, hb, hml, hown, hts0, hK, hA⟩ := hX
  have hts : ∀ w ∈ Ts, w.before args s = true := fun w hw => by
    obtain ⟨a, ha, h⟩ := hts0 w hw
    rw [ha] at h
    exact h
  intro H locs ls hP hD hS hl
  exact lv_bipush hx hb hd hv (kk H locs ls hP hD hS hl)
theorem g_sipush (hX : gOK X K nL cc own Ts) {i : Int} {v : Int32} (hd : decode cc pc = .ok (.sipush i, 3)) (hv : (Int16.ofInt i).toInt32 = v) (kk : VG X l R K nL k n ws lv (.int v :: stk) (pc + 3)) : VG X l R K nL k n ws lv stk pc := by
  obtain ⟨p, e, s, m, args, below, meth, c, A, Q⟩ := X
  obtain ⟨hx, hb, hml, hown, hts0, hK, hA⟩ := hX
  have hts : ∀ w ∈ Ts, w.before args s = true := fun w hw => by
    obtain ⟨a, ha, h⟩ := hts0 w hw
    rw [ha] at h
    exact h
  intro H locs ls hP hD hS hl
  exact lv_sipush hx hb hd hv (kk H locs ls hP hD hS hl)
theorem g_lconst (hX : gOK X K nL cc own Ts) {i : Fin 2} {v : Int64} (hd : decode cc pc = .ok (.lconst i, 1)) (hv : Int64.ofNat (i : Nat) = v) (kk : VG X l R K nL k n ws lv (.long v :: stk) (pc + 1)) : VG X l R K nL k n ws lv stk pc := by
  obtain ⟨p, e, s, m, args, below, meth, c, A, Q⟩ := X
  obtain ⟨hx, hb, hml, hown, hts0, hK, hA⟩ := hX
  have hts : ∀ w ∈ Ts, w.before args s = true := fun w hw => by
    obtain ⟨a, ha, h⟩ := hts0 w hw
    rw [ha] at h
    exact h
  intro H locs ls hP hD hS hl
  exact lv_lconst hx hb hd hv (kk H locs ls hP hD hS hl)
theorem g_ldc2 (hX : gOK X K nL cc own Ts) {i : Nat} {v : Int64} (hc : Cond.constantLong own i v ∈ Ts) (hd : decode cc pc = .ok (.ldc2_w i, 3)) (kk : VG X l R K nL k n ws lv (.long v :: stk) (pc + 3)) : VG X l R K nL k n ws lv stk pc := by
  obtain ⟨p, e, s, m, args, below, meth, c, A, Q⟩ := X
  obtain ⟨hx, hb, hml, hown, hts0, hK, hA⟩ := hX
  have hts : ∀ w ∈ Ts, w.before args s = true := fun w hw => by
    obtain ⟨a, ha, h⟩ := hts0 w hw
    rw [ha] at h
    exact h
  intro H locs ls hP hD hS hl
  exact lv_ldc2 hx hb hown (hts _ hc) hd (kk H locs ls hP hD hS hl)
theorem g_null (hX : gOK X K nL cc own Ts) (hd : decode cc pc = .ok (.aconst_null, 1)) (kk : VG X l R K nL k n ws lv (.null :: stk) (pc + 1)) : VG X l R K nL k n ws lv stk pc := by
  obtain ⟨p, e, s, m, args, below, meth, c, A, Q⟩ := X
  obtain ⟨hx, hb, hml, hown, hts0, hK, hA⟩ := hX
  have hts : ∀ w ∈ Ts, w.before args s = true := fun w hw => by
    obtain ⟨a, ha, h⟩ := hts0 w hw
    rw [ha] at h
    exact h
  intro H locs ls hP hD hS hl
  exact lv_null hx hb hd (kk H locs ls hP hD hS hl)
theorem g_iadd (hX : gOK X K nL cc own Ts) {x y z : Int32} (hd : decode cc pc = .ok (.iadd, 1)) (hz : x + y = z) (kk : VG X l R K nL k n ws lv (.int z :: stk) (pc + 1)) : VG X l R K nL k n ws lv (.int y :: .int x :: stk) pc := by
  obtain ⟨p, e, s, m, args, below, meth, c, A, Q⟩ := X
  obtain ⟨hx, hb, hml, hown, hts0, hK, hA⟩ := hX
  have hts : ∀ w ∈ Ts, w.before args s = true := fun w hw => by
    obtain ⟨a, ha, h⟩ := hts0 w hw
    rw [ha] at h
    exact h
  intro H locs ls hP hD hS hl
  subst hz
  exact lv_iadd hx hb hd (kk H locs ls hP hD hS hl)
theorem g_isub (hX : gOK X K nL cc own Ts) {x y z : Int32} (hd : decode cc pc = .ok (.isub, 1)) (hz : x - y = z) (kk : VG X l R K nL k n ws lv (.int z :: stk) (pc + 1)) : VG X l R K nL k n ws lv (.int y :: .int x :: stk) pc := by
  obtain ⟨p, e, s, m, args, below, meth, c, A, Q⟩ := X
  obtain ⟨hx, hb, hml, hown, hts0, hK, hA⟩ := hX
  have hts : ∀ w ∈ Ts, w.before args s = true := fun w hw => by
    obtain ⟨a, ha, h⟩ := hts0 w hw
    rw [ha] at h
    exact h
  intro H locs ls hP hD hS hl
  subst hz
  exact lv_isub hx hb hd (kk H locs ls hP hD hS hl)
theorem g_imul (hX : gOK X K nL cc own Ts) {x y z : Int32} (hd : decode cc pc = .ok (.imul, 1)) (hz : x * y = z) (kk : VG X l R K nL k n ws lv (.int z :: stk) (pc + 1)) : VG X l R K nL k n ws lv (.int y :: .int x :: stk) pc := by
  obtain ⟨p, e, s, m, args, below, meth, c, A, Q⟩ := X
  obtain ⟨hx, hb, hml, hown, hts0, hK, hA⟩ := hX
  have hts : ∀ w ∈ Ts, w.before args s = true := fun w hw => by
    obtain ⟨a, ha, h⟩ := hts0 w hw
    rw [ha] at h
    exact h
  intro H locs ls hP hD hS hl
  subst hz
  exact lv_imul hx hb hd (kk H locs ls hP hD hS hl)
theorem g_iand (hX : gOK X K nL cc own Ts) {x y z : Int32} (hd : decode cc pc = .ok (.iand, 1)) (hz : x &&& y = z) (kk : VG X l R K nL k n ws lv (.int z :: stk) (pc + 1)) : VG X l R K nL k n ws lv (.int y :: .int x :: stk) pc := by
  obtain ⟨p, e, s, m, args, below, meth, c, A, Q⟩ := X
  obtain ⟨hx, hb, hml, hown, hts0, hK, hA⟩ := hX
  have hts : ∀ w ∈ Ts, w.before args s = true := fun w hw => by
    obtain ⟨a, ha, h⟩ := hts0 w hw
    rw [ha] at h
    exact h
  intro H locs ls hP hD hS hl
  subst hz
  exact lv_iand hx hb hd (kk H locs ls hP hD hS hl)
theorem g_idiv (hX : gOK X K nL cc own Ts) {x y z : Int32} (hd : decode cc pc = .ok (.idiv, 1)) (hy : ¬ y = 0) (hz : x / y = z) (kk : VG X l R K nL k n ws lv (.int z :: stk) (pc + 1)) : VG X l R K nL k n ws lv (.int y :: .int x :: stk) pc := by
  obtain ⟨p, e, s, m, args, below, meth, c, A, Q⟩ := X
  obtain ⟨hx, hb, hml, hown, hts0, hK, hA⟩ := hX
  have hts : ∀ w ∈ Ts, w.before args s = true := fun w hw => by
    obtain ⟨a, ha, h⟩ := hts0 w hw
    rw [ha] at h
    exact h
  intro H locs ls hP hD hS hl
  subst hz
  exact lv_idiv hx hb hd hy (kk H locs ls hP hD hS hl)
theorem g_iaddN (hX : gOK X K nL cc own Ts) {a b r : Nat} (hd : decode cc pc = .ok (.iadd, 1)) (hr : a + b = r) (kk : VG X l R K nL k n ws lv (.int (nI r) :: stk) (pc + 1)) : VG X l R K nL k n ws lv (.int (nI b) :: .int (nI a) :: stk) pc := g_iadd hX hd (by rw [nI_add, hr]) kk
theorem g_isubN (hX : gOK X K nL cc own Ts) {a b r : Nat} (hd : decode cc pc = .ok (.isub, 1)) (hr : a = r + b) (kk : VG X l R K nL k n ws lv (.int (nI r) :: stk) (pc + 1)) : VG X l R K nL k n ws lv (.int (nI b) :: .int (nI a) :: stk) pc := g_isub hX hd (by rw [pk_sub (by omega), show a - b = r by omega]) kk
theorem g_imulN (hX : gOK X K nL cc own Ts) {a b r : Nat} (hd : decode cc pc = .ok (.imul, 1)) (hr : a * b = r) (kk : VG X l R K nL k n ws lv (.int (nI r) :: stk) (pc + 1)) : VG X l R K nL k n ws lv (.int (nI b) :: .int (nI a) :: stk) pc := g_imul hX hd (by rw [pk_mul, hr]) kk
theorem g_idivN (hX : gOK X K nL cc own Ts) {a b r : Nat} (hd : decode cc pc = .ok (.idiv, 1)) (ha : a < 2 ^ 31) (h0 : 0 < b) (hb2 : b < 2 ^ 31) (hr : a / b = r) (kk : VG X l R K nL k n ws lv (.int (nI r) :: stk) (pc + 1)) : VG X l R K nL k n ws lv (.int (nI b) :: .int (nI a) :: stk) pc := g_idiv hX hd (nI_ne0 h0 hb2) (by rw [pk_div ha h0 hb2, hr]) kk

theorem g_land (hX : gOK X K nL cc own Ts) {x y z : Int64} (hd : decode cc pc = .ok (.land, 1)) (hz : x &&& y = z) (kk : VG X l R K nL k n ws lv (.long z :: stk) (pc + 1)) : VG X l R K nL k n ws lv (.long y :: .long x :: stk) pc := by
  obtain ⟨p, e, s, m, args, below, meth, c, A, Q⟩ := X
  obtain ⟨hx, hb, hml, hown, hts0, hK, hA⟩ := hX
  have hts : ∀ w ∈ Ts, w.before args s = true := fun w hw => by
    obtain ⟨a, ha, h⟩ := hts0 w hw
    rw [ha] at h
    exact h
  intro H locs ls hP hD hS hl
  subst hz
  exact lv_land hx hb hd (kk H locs ls hP hD hS hl)
theorem g_lor (hX : gOK X K nL cc own Ts) {x y z : Int64} (hd : decode cc pc = .ok (.lor, 1)) (hz : x ||| y = z) (kk : VG X l R K nL k n ws lv (.long z :: stk) (pc + 1)) : VG X l R K nL k n ws lv (.long y :: .long x :: stk) pc := by
  obtain ⟨p, e, s, m, args, below, meth, c, A, Q⟩ := X
  obtain ⟨hx, hb, hml, hown, hts0, hK, hA⟩ := hX
  have hts : ∀ w ∈ Ts, w.before args s = true := fun w hw => by
    obtain ⟨a, ha, h⟩ := hts0 w hw
    rw [ha] at h
    exact h
  intro H locs ls hP hD hS hl
  subst hz
  exact lv_lor hx hb hd (kk H locs ls hP hD hS hl)
theorem g_lxor (hX : gOK X K nL cc own Ts) {x y z : Int64} (hd : decode cc pc = .ok (.lxor, 1)) (hz : x ^^^ y = z) (kk : VG X l R K nL k n ws lv (.long z :: stk) (pc + 1)) : VG X l R K nL k n ws lv (.long y :: .long x :: stk) pc := by
  obtain ⟨p, e, s, m, args, below, meth, c, A, Q⟩ := X
  obtain ⟨hx, hb, hml, hown, hts0, hK, hA⟩ := hX
  have hts : ∀ w ∈ Ts, w.before args s = true := fun w hw => by
    obtain ⟨a, ha, h⟩ := hts0 w hw
    rw [ha] at h
    exact h
  intro H locs ls hP hD hS hl
  subst hz
  exact lv_lxor hx hb hd (kk H locs ls hP hD hS hl)
theorem g_lshl (hX : gOK X K nL cc own Ts) {x v : Int64} {y : Int32} (hd : decode cc pc = .ok (.lshl, 1)) (hv : x <<< (y.toInt64 &&& 63) = v) (kk : VG X l R K nL k n ws lv (.long v :: stk) (pc + 1)) : VG X l R K nL k n ws lv (.int y :: .long x :: stk) pc := by
  obtain ⟨p, e, s, m, args, below, meth, c, A, Q⟩ := X
  obtain ⟨hx, hb, hml, hown, hts0, hK, hA⟩ := hX
  have hts : ∀ w ∈ Ts, w.before args s = true := fun w hw => by
    obtain ⟨a, ha, h⟩ := hts0 w hw
    rw [ha] at h
    exact h
  intro H locs ls hP hD hS hl
  exact lv_lshl hx hb hd hv (kk H locs ls hP hD hS hl)
theorem g_lcmp (hX : gOK X K nL cc own Ts) {x y : Int64} (hd : decode cc pc = .ok (.lcmp, 1)) (kk : VG X l R K nL k n ws lv (.int (lg_cmp x y) :: stk) (pc + 1)) : VG X l R K nL k n ws lv (.long y :: .long x :: stk) pc := by
  obtain ⟨p, e, s, m, args, below, meth, c, A, Q⟩ := X
  obtain ⟨hx, hb, hml, hown, hts0, hK, hA⟩ := hX
  have hts : ∀ w ∈ Ts, w.before args s = true := fun w hw => by
    obtain ⟨a, ha, h⟩ := hts0 w hw
    rw [ha] at h
    exact h
  intro H locs ls hP hD hS hl
  exact W.lcmp hx hb hd (kk H locs ls hP hD hS hl)
theorem g_dup (hX : gOK X K nL cc own Ts) {v : Value} (hd : decode cc pc = .ok (.dup, 1)) (hv : v.category = 1) (kk : VG X l R K nL k n ws lv (v :: v :: stk) (pc + 1)) : VG X l R K nL k n ws lv (v :: stk) pc := by
  obtain ⟨p, e, s, m, args, below, meth, c, A, Q⟩ := X
  obtain ⟨hx, hb, hml, hown, hts0, hK, hA⟩ := hX
  have hts : ∀ w ∈ Ts, w.before args s = true := fun w hw => by
    obtain ⟨a, ha, h⟩ := hts0 w hw
    rw [ha] at h
    exact h
  intro H locs ls hP hD hS hl
  exact lv_dup hx hb hd hv (kk H locs ls hP hD hS hl)
theorem g_pop (hX : gOK X K nL cc own Ts) {v : Value} (hd : decode cc pc = .ok (.pop, 1)) (hv : v.category = 1) (kk : VG X l R K nL k n ws lv stk (pc + 1)) : VG X l R K nL k n ws lv (v :: stk) pc := by
  obtain ⟨p, e, s, m, args, below, meth, c, A, Q⟩ := X
  obtain ⟨hx, hb, hml, hown, hts0, hK, hA⟩ := hX
  have hts : ∀ w ∈ Ts, w.before args s = true := fun w hw => by
    obtain ⟨a, ha, h⟩ := hts0 w hw
    rw [ha] at h
    exact h
  intro H locs ls hP hD hS hl
  exact lv_pop hx hb hd hv (kk H locs ls hP hD hS hl)
theorem g_goto (hX : gOK X K nL cc own Ts) {off : Int} {tgt : Nat} (hd : decode cc pc = .ok (.goto off, 3)) (ht : (pc : Int) + off = (tgt : Int)) (kk : VG X l R K nL k n ws lv stk tgt) : VG X l R K nL k n ws lv stk pc := by
  obtain ⟨p, e, s, m, args, below, meth, c, A, Q⟩ := X
  obtain ⟨hx, hb, hml, hown, hts0, hK, hA⟩ := hX
  have hts : ∀ w ∈ Ts, w.before args s = true := fun w hw => by
    obtain ⟨a, ha, h⟩ := hts0 w hw
    rw [ha] at h
    exact h
  intro H locs ls hP hD hS hl
  exact lv_goto hx hb hd ht (kk H locs ls hP hD hS hl)
theorem g_iinc (hX : gOK X K nL cc own Ts) {i z : Nat} {d : Int} {x v : Int32} {lv' : List (Nat × Value)} (hd : decode cc pc = .ok (.iinc i d, 3)) (hk : lv[z]? = some (i, .int x)) (hv : x + Int32.ofInt d = v) (hn : i < nL) (hl2 : (i, Value.int v) :: lv.filter (fun q => !(q.1 == i) && !(q.1 + 1 == i && q.2.category == 2)) = lv') (kk : VG X l R K nL k n ws lv' stk (pc + 3)) : VG X l R K nL k n ws lv stk pc := by
  obtain ⟨p, e, s, m, args, below, meth, c, A, Q⟩ := X
  obtain ⟨hx, hb, hml, hown, hts0, hK, hA⟩ := hX
  have hts : ∀ w ∈ Ts, w.before args s = true := fun w hw => by
    obtain ⟨a, ha, h⟩ := hts0 w hw
    rw [ha] at h
    exact h
  intro H locs ls hP hD hS hl
  exact lv_iinc hx hb hd hl hk hv hn hl2 (fun ls hl => kk H locs ls hP hD hS hl)
theorem g_if_eq (hX : gOK X K nL cc own Ts) {x : Int32} {off : Int} {tgt : Nat} (hd : decode cc pc = .ok (.ifCond .eq off, 3)) (ht : (pc : Int) + off = (tgt : Int)) (kt : x = 0 → VG X l R K nL k n ws lv stk tgt) (kf : ¬ x = 0 → VG X l R K nL k n ws lv stk (pc + 3)) : VG X l R K nL k n ws lv (.int x :: stk) pc := by
  obtain ⟨p, e, s, m, args, below, meth, c, A, Q⟩ := X
  obtain ⟨hx, hb, hml, hown, hts0, hK, hA⟩ := hX
  have hts : ∀ w ∈ Ts, w.before args s = true := fun w hw => by
    obtain ⟨a, ha, h⟩ := hts0 w hw
    rw [ha] at h
    exact h
  intro H locs ls hP hD hS hl
  exact lv_if_eq hx hb hd ht (fun h => kt h H locs ls hP hD hS hl) (fun h => kf h H locs ls hP hD hS hl)
theorem g_icmp_eq (hX : gOK X K nL cc own Ts) {x y : Int32} {off : Int} {tgt : Nat} (hd : decode cc pc = .ok (.if_icmp .eq off, 3)) (ht : (pc : Int) + off = (tgt : Int)) (kt : x = y → VG X l R K nL k n ws lv stk tgt) (kf : ¬ x = y → VG X l R K nL k n ws lv stk (pc + 3)) : VG X l R K nL k n ws lv (.int y :: .int x :: stk) pc := by
  obtain ⟨p, e, s, m, args, below, meth, c, A, Q⟩ := X
  obtain ⟨hx, hb, hml, hown, hts0, hK, hA⟩ := hX
  have hts : ∀ w ∈ Ts, w.before args s = true := fun w hw => by
    obtain ⟨a, ha, h⟩ := hts0 w hw
    rw [ha] at h
    exact h
  intro H locs ls hP hD hS hl
  exact lv_icmp_eq hx hb hd ht (fun h => kt h H locs ls hP hD hS hl) (fun h => kf h H locs ls hP hD hS hl)
theorem g_if_ne (hX : gOK X K nL cc own Ts) {x : Int32} {off : Int} {tgt : Nat} (hd : decode cc pc = .ok (.ifCond .ne off, 3)) (ht : (pc : Int) + off = (tgt : Int)) (kt : ¬ x = 0 → VG X l R K nL k n ws lv stk tgt) (kf : x = 0 → VG X l R K nL k n ws lv stk (pc + 3)) : VG X l R K nL k n ws lv (.int x :: stk) pc := by
  obtain ⟨p, e, s, m, args, below, meth, c, A, Q⟩ := X
  obtain ⟨hx, hb, hml, hown, hts0, hK, hA⟩ := hX
  have hts : ∀ w ∈ Ts, w.before args s = true := fun w hw => by
    obtain ⟨a, ha, h⟩ := hts0 w hw
    rw [ha] at h
    exact h
  intro H locs ls hP hD hS hl
  exact lv_if_ne hx hb hd ht (fun h => kt h H locs ls hP hD hS hl) (fun h => kf h H locs ls hP hD hS hl)
theorem g_icmp_ne (hX : gOK X K nL cc own Ts) {x y : Int32} {off : Int} {tgt : Nat} (hd : decode cc pc = .ok (.if_icmp .ne off, 3)) (ht : (pc : Int) + off = (tgt : Int)) (kt : ¬ x = y → VG X l R K nL k n ws lv stk tgt) (kf : x = y → VG X l R K nL k n ws lv stk (pc + 3)) : VG X l R K nL k n ws lv (.int y :: .int x :: stk) pc := by
  obtain ⟨p, e, s, m, args, below, meth, c, A, Q⟩ := X
  obtain ⟨hx, hb, hml, hown, hts0, hK, hA⟩ := hX
  have hts : ∀ w ∈ Ts, w.before args s = true := fun w hw => by
    obtain ⟨a, ha, h⟩ := hts0 w hw
    rw [ha] at h
    exact h
  intro H locs ls hP hD hS hl
  exact lv_icmp_ne hx hb hd ht (fun h => kt h H locs ls hP hD hS hl) (fun h => kf h H locs ls hP hD hS hl)
theorem g_if_lt (hX : gOK X K nL cc own Ts) {x : Int32} {off : Int} {tgt : Nat} (hd : decode cc pc = .ok (.ifCond .lt off, 3)) (ht : (pc : Int) + off = (tgt : Int)) (kt : x < 0 → VG X l R K nL k n ws lv stk tgt) (kf : ¬ x < 0 → VG X l R K nL k n ws lv stk (pc + 3)) : VG X l R K nL k n ws lv (.int x :: stk) pc := by
  obtain ⟨p, e, s, m, args, below, meth, c, A, Q⟩ := X
  obtain ⟨hx, hb, hml, hown, hts0, hK, hA⟩ := hX
  have hts : ∀ w ∈ Ts, w.before args s = true := fun w hw => by
    obtain ⟨a, ha, h⟩ := hts0 w hw
    rw [ha] at h
    exact h
  intro H locs ls hP hD hS hl
  exact lv_if_lt hx hb hd ht (fun h => kt h H locs ls hP hD hS hl) (fun h => kf h H locs ls hP hD hS hl)
theorem g_icmp_lt (hX : gOK X K nL cc own Ts) {x y : Int32} {off : Int} {tgt : Nat} (hd : decode cc pc = .ok (.if_icmp .lt off, 3)) (ht : (pc : Int) + off = (tgt : Int)) (kt : x < y → VG X l R K nL k n ws lv stk tgt) (kf : ¬ x < y → VG X l R K nL k n ws lv stk (pc + 3)) : VG X l R K nL k n ws lv (.int y :: .int x :: stk) pc := by
  obtain ⟨p, e, s, m, args, below, meth, c, A, Q⟩ := X
  obtain ⟨hx, hb, hml, hown, hts0, hK, hA⟩ := hX
  have hts : ∀ w ∈ Ts, w.before args s = true := fun w hw => by
    obtain ⟨a, ha, h⟩ := hts0 w hw
    rw [ha] at h
    exact h
  intro H locs ls hP hD hS hl
  exact lv_icmp_lt hx hb hd ht (fun h => kt h H locs ls hP hD hS hl) (fun h => kf h H locs ls hP hD hS hl)
theorem g_if_ge (hX : gOK X K nL cc own Ts) {x : Int32} {off : Int} {tgt : Nat} (hd : decode cc pc = .ok (.ifCond .ge off, 3)) (ht : (pc : Int) + off = (tgt : Int)) (kt : 0 ≤ x → VG X l R K nL k n ws lv stk tgt) (kf : ¬ 0 ≤ x → VG X l R K nL k n ws lv stk (pc + 3)) : VG X l R K nL k n ws lv (.int x :: stk) pc := by
  obtain ⟨p, e, s, m, args, below, meth, c, A, Q⟩ := X
  obtain ⟨hx, hb, hml, hown, hts0, hK, hA⟩ := hX
  have hts : ∀ w ∈ Ts, w.before args s = true := fun w hw => by
    obtain ⟨a, ha, h⟩ := hts0 w hw
    rw [ha] at h
    exact h
  intro H locs ls hP hD hS hl
  exact lv_if_ge hx hb hd ht (fun h => kt h H locs ls hP hD hS hl) (fun h => kf h H locs ls hP hD hS hl)
theorem g_icmp_ge (hX : gOK X K nL cc own Ts) {x y : Int32} {off : Int} {tgt : Nat} (hd : decode cc pc = .ok (.if_icmp .ge off, 3)) (ht : (pc : Int) + off = (tgt : Int)) (kt : y ≤ x → VG X l R K nL k n ws lv stk tgt) (kf : ¬ y ≤ x → VG X l R K nL k n ws lv stk (pc + 3)) : VG X l R K nL k n ws lv (.int y :: .int x :: stk) pc := by
  obtain ⟨p, e, s, m, args, below, meth, c, A, Q⟩ := X
  obtain ⟨hx, hb, hml, hown, hts0, hK, hA⟩ := hX
  have hts : ∀ w ∈ Ts, w.before args s = true := fun w hw => by
    obtain ⟨a, ha, h⟩ := hts0 w hw
    rw [ha] at h
    exact h
  intro H locs ls hP hD hS hl
  exact lv_icmp_ge hx hb hd ht (fun h => kt h H locs ls hP hD hS hl) (fun h => kf h H locs ls hP hD hS hl)
theorem g_if_gt (hX : gOK X K nL cc own Ts) {x : Int32} {off : Int} {tgt : Nat} (hd : decode cc pc = .ok (.ifCond .gt off, 3)) (ht : (pc : Int) + off = (tgt : Int)) (kt : 0 < x → VG X l R K nL k n ws lv stk tgt) (kf : ¬ 0 < x → VG X l R K nL k n ws lv stk (pc + 3)) : VG X l R K nL k n ws lv (.int x :: stk) pc := by
  obtain ⟨p, e, s, m, args, below, meth, c, A, Q⟩ := X
  obtain ⟨hx, hb, hml, hown, hts0, hK, hA⟩ := hX
  have hts : ∀ w ∈ Ts, w.before args s = true := fun w hw => by
    obtain ⟨a, ha, h⟩ := hts0 w hw
    rw [ha] at h
    exact h
  intro H locs ls hP hD hS hl
  exact lv_if_gt hx hb hd ht (fun h => kt h H locs ls hP hD hS hl) (fun h => kf h H locs ls hP hD hS hl)
theorem g_icmp_gt (hX : gOK X K nL cc own Ts) {x y : Int32} {off : Int} {tgt : Nat} (hd : decode cc pc = .ok (.if_icmp .gt off, 3)) (ht : (pc : Int) + off = (tgt : Int)) (kt : y < x → VG X l R K nL k n ws lv stk tgt) (kf : ¬ y < x → VG X l R K nL k n ws lv stk (pc + 3)) : VG X l R K nL k n ws lv (.int y :: .int x :: stk) pc := by
  obtain ⟨p, e, s, m, args, below, meth, c, A, Q⟩ := X
  obtain ⟨hx, hb, hml, hown, hts0, hK, hA⟩ := hX
  have hts : ∀ w ∈ Ts, w.before args s = true := fun w hw => by
    obtain ⟨a, ha, h⟩ := hts0 w hw
    rw [ha] at h
    exact h
  intro H locs ls hP hD hS hl
  exact lv_icmp_gt hx hb hd ht (fun h => kt h H locs ls hP hD hS hl) (fun h => kf h H locs ls hP hD hS hl)
theorem g_if_le (hX : gOK X K nL cc own Ts) {x : Int32} {off : Int} {tgt : Nat} (hd : decode cc pc = .ok (.ifCond .le off, 3)) (ht : (pc : Int) + off = (tgt : Int)) (kt : x ≤ 0 → VG X l R K nL k n ws lv stk tgt) (kf : ¬ x ≤ 0 → VG X l R K nL k n ws lv stk (pc + 3)) : VG X l R K nL k n ws lv (.int x :: stk) pc := by
  obtain ⟨p, e, s, m, args, below, meth, c, A, Q⟩ := X
  obtain ⟨hx, hb, hml, hown, hts0, hK, hA⟩ := hX
  have hts : ∀ w ∈ Ts, w.before args s = true := fun w hw => by
    obtain ⟨a, ha, h⟩ := hts0 w hw
    rw [ha] at h
    exact h
  intro H locs ls hP hD hS hl
  exact lv_if_le hx hb hd ht (fun h => kt h H locs ls hP hD hS hl) (fun h => kf h H locs ls hP hD hS hl)
theorem g_icmp_le (hX : gOK X K nL cc own Ts) {x y : Int32} {off : Int} {tgt : Nat} (hd : decode cc pc = .ok (.if_icmp .le off, 3)) (ht : (pc : Int) + off = (tgt : Int)) (kt : x ≤ y → VG X l R K nL k n ws lv stk tgt) (kf : ¬ x ≤ y → VG X l R K nL k n ws lv stk (pc + 3)) : VG X l R K nL k n ws lv (.int y :: .int x :: stk) pc := by
  obtain ⟨p, e, s, m, args, below, meth, c, A, Q⟩ := X
  obtain ⟨hx, hb, hml, hown, hts0, hK, hA⟩ := hX
  have hts : ∀ w ∈ Ts, w.before args s = true := fun w hw => by
    obtain ⟨a, ha, h⟩ := hts0 w hw
    rw [ha] at h
    exact h
  intro H locs ls hP hD hS hl
  exact lv_icmp_le hx hb hd ht (fun h => kt h H locs ls hP hD hS hl) (fun h => kf h H locs ls hP hD hS hl)
theorem gn_eq {a b : Nat} (ha : a < 2 ^ 31) (hb : b < 2 ^ 31) (h : nI a = nI b) : a = b := (nI_eq ha hb).mp h
theorem gn_ne {a b : Nat} (h : ¬ nI a = nI b) : a ≠ b := fun e => h (by rw [e])
theorem gn_lt {a b : Nat} (ha : a < 2 ^ 31) (hb : b < 2 ^ 31) (h : nI a < nI b) : a < b := (nI_ltI ha hb).mp h
theorem gn_nlt {a b : Nat} (ha : a < 2 ^ 31) (hb : b < 2 ^ 31) (h : ¬ nI a < nI b) : b ≤ a := Nat.not_lt.mp (fun q => h ((nI_ltI ha hb).mpr q))
theorem gn_le {a b : Nat} (ha : a < 2 ^ 31) (hb : b < 2 ^ 31) (h : nI a ≤ nI b) : a ≤ b := (nI_leI ha hb).mp h
theorem gn_nle {a b : Nat} (ha : a < 2 ^ 31) (hb : b < 2 ^ 31) (h : ¬ nI a ≤ nI b) : b < a := Nat.not_le.mp (fun q => h ((nI_leI ha hb).mpr q))

theorem g_icmpN_eq (hX : gOK X K nL cc own Ts) {a b : Nat} {off : Int} {tgt : Nat} (ha : a < 2 ^ 31) (hb2 : b < 2 ^ 31) (hd : decode cc pc = .ok (.if_icmp .eq off, 3)) (ht : (pc : Int) + off = (tgt : Int)) (kt : a = b → VG X l R K nL k n ws lv stk tgt) (kf : a ≠ b → VG X l R K nL k n ws lv stk (pc + 3)) : VG X l R K nL k n ws lv (.int (nI b) :: .int (nI a) :: stk) pc := g_icmp_eq hX hd ht (fun h => kt (gn_eq ha hb2 h)) (fun h => kf (gn_ne h))
theorem g_ifN_eq (hX : gOK X K nL cc own Ts) {a : Nat} {off : Int} {tgt : Nat} (ha : a < 2 ^ 31) (hd : decode cc pc = .ok (.ifCond .eq off, 3)) (ht : (pc : Int) + off = (tgt : Int)) (kt : a = 0 → VG X l R K nL k n ws lv stk tgt) (kf : a ≠ 0 → VG X l R K nL k n ws lv stk (pc + 3)) : VG X l R K nL k n ws lv (.int (nI a) :: stk) pc := g_if_eq hX hd ht (fun h => kt (have hb2 : (0 : Nat) < 2 ^ 31 := by omega
    gn_eq ha hb2 h)) (fun h => kf (have hb2 : (0 : Nat) < 2 ^ 31 := by omega
    gn_ne h))
theorem g_icmpN_ne (hX : gOK X K nL cc own Ts) {a b : Nat} {off : Int} {tgt : Nat} (ha : a < 2 ^ 31) (hb2 : b < 2 ^ 31) (hd : decode cc pc = .ok (.if_icmp .ne off, 3)) (ht : (pc : Int) + off = (tgt : Int)) (kt : a ≠ b → VG X l R K nL k n ws lv stk tgt) (kf : a = b → VG X l R K nL k n ws lv stk (pc + 3)) : VG X l R K nL k n ws lv (.int (nI b) :: .int (nI a) :: stk) pc := g_icmp_ne hX hd ht (fun h => kt (gn_ne h)) (fun h => kf (gn_eq ha hb2 h))
theorem g_ifN_ne (hX : gOK X K nL cc own Ts) {a : Nat} {off : Int} {tgt : Nat} (ha : a < 2 ^ 31) (hd : decode cc pc = .ok (.ifCond .ne off, 3)) (ht : (pc : Int) + off = (tgt : Int)) (kt : a ≠ 0 → VG X l R K nL k n ws lv stk tgt) (kf : a = 0 → VG X l R K nL k n ws lv stk (pc + 3)) : VG X l R K nL k n ws lv (.int (nI a) :: stk) pc := g_if_ne hX hd ht (fun h => kt (have hb2 : (0 : Nat) < 2 ^ 31 := by omega
    gn_ne h)) (fun h => kf (have hb2 : (0 : Nat) < 2 ^ 31 := by omega
    gn_eq ha hb2 h))
theorem g_icmpN_lt (hX : gOK X K nL cc own Ts) {a b : Nat} {off : Int} {tgt : Nat} (ha : a < 2 ^ 31) (hb2 : b < 2 ^ 31) (hd : decode cc pc = .ok (.if_icmp .lt off, 3)) (ht : (pc : Int) + off = (tgt : Int)) (kt : a < b → VG X l R K nL k n ws lv stk tgt) (kf : b ≤ a → VG X l R K nL k n ws lv stk (pc + 3)) : VG X l R K nL k n ws lv (.int (nI b) :: .int (nI a) :: stk) pc := g_icmp_lt hX hd ht (fun h => kt (gn_lt ha hb2 h)) (fun h => kf (gn_nlt ha hb2 h))
theorem g_ifN_lt (hX : gOK X K nL cc own Ts) {a : Nat} {off : Int} {tgt : Nat} (ha : a < 2 ^ 31) (hd : decode cc pc = .ok (.ifCond .lt off, 3)) (ht : (pc : Int) + off = (tgt : Int)) (kt : a < 0 → VG X l R K nL k n ws lv stk tgt) (kf : 0 ≤ a → VG X l R K nL k n ws lv stk (pc + 3)) : VG X l R K nL k n ws lv (.int (nI a) :: stk) pc := g_if_lt hX hd ht (fun h => kt (have hb2 : (0 : Nat) < 2 ^ 31 := by omega
    gn_lt ha hb2 h)) (fun h => kf (have hb2 : (0 : Nat) < 2 ^ 31 := by omega
    gn_nlt ha hb2 h))
theorem g_icmpN_ge (hX : gOK X K nL cc own Ts) {a b : Nat} {off : Int} {tgt : Nat} (ha : a < 2 ^ 31) (hb2 : b < 2 ^ 31) (hd : decode cc pc = .ok (.if_icmp .ge off, 3)) (ht : (pc : Int) + off = (tgt : Int)) (kt : b ≤ a → VG X l R K nL k n ws lv stk tgt) (kf : a < b → VG X l R K nL k n ws lv stk (pc + 3)) : VG X l R K nL k n ws lv (.int (nI b) :: .int (nI a) :: stk) pc := g_icmp_ge hX hd ht (fun h => kt (gn_le hb2 ha h)) (fun h => kf (gn_nle hb2 ha h))
theorem g_ifN_ge (hX : gOK X K nL cc own Ts) {a : Nat} {off : Int} {tgt : Nat} (ha : a < 2 ^ 31) (hd : decode cc pc = .ok (.ifCond .ge off, 3)) (ht : (pc : Int) + off = (tgt : Int)) (kt : 0 ≤ a → VG X l R K nL k n ws lv stk tgt) (kf : a < 0 → VG X l R K nL k n ws lv stk (pc + 3)) : VG X l R K nL k n ws lv (.int (nI a) :: stk) pc := g_if_ge hX hd ht (fun h => kt (have hb2 : (0 : Nat) < 2 ^ 31 := by omega
    gn_le hb2 ha h)) (fun h => kf (have hb2 : (0 : Nat) < 2 ^ 31 := by omega
    gn_nle hb2 ha h))
theorem g_icmpN_gt (hX : gOK X K nL cc own Ts) {a b : Nat} {off : Int} {tgt : Nat} (ha : a < 2 ^ 31) (hb2 : b < 2 ^ 31) (hd : decode cc pc = .ok (.if_icmp .gt off, 3)) (ht : (pc : Int) + off = (tgt : Int)) (kt : b < a → VG X l R K nL k n ws lv stk tgt) (kf : a ≤ b → VG X l R K nL k n ws lv stk (pc + 3)) : VG X l R K nL k n ws lv (.int (nI b) :: .int (nI a) :: stk) pc := g_icmp_gt hX hd ht (fun h => kt (gn_lt hb2 ha h)) (fun h => kf (gn_nlt hb2 ha h))
theorem g_ifN_gt (hX : gOK X K nL cc own Ts) {a : Nat} {off : Int} {tgt : Nat} (ha : a < 2 ^ 31) (hd : decode cc pc = .ok (.ifCond .gt off, 3)) (ht : (pc : Int) + off = (tgt : Int)) (kt : 0 < a → VG X l R K nL k n ws lv stk tgt) (kf : a ≤ 0 → VG X l R K nL k n ws lv stk (pc + 3)) : VG X l R K nL k n ws lv (.int (nI a) :: stk) pc := g_if_gt hX hd ht (fun h => kt (have hb2 : (0 : Nat) < 2 ^ 31 := by omega
    gn_lt hb2 ha h)) (fun h => kf (have hb2 : (0 : Nat) < 2 ^ 31 := by omega
    gn_nlt hb2 ha h))
theorem g_icmpN_le (hX : gOK X K nL cc own Ts) {a b : Nat} {off : Int} {tgt : Nat} (ha : a < 2 ^ 31) (hb2 : b < 2 ^ 31) (hd : decode cc pc = .ok (.if_icmp .le off, 3)) (ht : (pc : Int) + off = (tgt : Int)) (kt : a ≤ b → VG X l R K nL k n ws lv stk tgt) (kf : b < a → VG X l R K nL k n ws lv stk (pc + 3)) : VG X l R K nL k n ws lv (.int (nI b) :: .int (nI a) :: stk) pc := g_icmp_le hX hd ht (fun h => kt (gn_le ha hb2 h)) (fun h => kf (gn_nle ha hb2 h))
theorem g_ifN_le (hX : gOK X K nL cc own Ts) {a : Nat} {off : Int} {tgt : Nat} (ha : a < 2 ^ 31) (hd : decode cc pc = .ok (.ifCond .le off, 3)) (ht : (pc : Int) + off = (tgt : Int)) (kt : a ≤ 0 → VG X l R K nL k n ws lv stk tgt) (kf : 0 < a → VG X l R K nL k n ws lv stk (pc + 3)) : VG X l R K nL k n ws lv (.int (nI a) :: stk) pc := g_if_le hX hd ht (fun h => kt (have hb2 : (0 : Nat) < 2 ^ 31 := by omega
    gn_le ha hb2 h)) (fun h => kf (have hb2 : (0 : Nat) < 2 ^ 31 := by omega
    gn_nle ha hb2 h))
theorem g_ifB_eq (hX : gOK X K nL cc own Ts) {b : Bool} {off : Int} {tgt : Nat} (hd : decode cc pc = .ok (.ifCond .eq off, 3)) (ht : (pc : Int) + off = (tgt : Int)) (kt : b = false → VG X l R K nL k n ws lv stk tgt) (kf : b = true → VG X l R K nL k n ws lv stk (pc + 3)) : VG X l R K nL k n ws lv (.int (bI b) :: stk) pc := by
  cases b with
  | false => exact g_if_eq hX hd ht (fun _ => kt rfl) (fun h => absurd rfl h)
  | true => exact g_if_eq hX hd ht (fun h => absurd h (by decide)) (fun _ => kf rfl)
theorem g_ifB_ne (hX : gOK X K nL cc own Ts) {b : Bool} {off : Int} {tgt : Nat} (hd : decode cc pc = .ok (.ifCond .ne off, 3)) (ht : (pc : Int) + off = (tgt : Int)) (kt : b = true → VG X l R K nL k n ws lv stk tgt) (kf : b = false → VG X l R K nL k n ws lv stk (pc + 3)) : VG X l R K nL k n ws lv (.int (bI b) :: stk) pc := by
  cases b with
  | false => exact g_if_ne hX hd ht (fun h => absurd rfl h) (fun _ => kf rfl)
  | true => exact g_if_ne hX hd ht (fun _ => kt rfl) (fun h => absurd h (by decide))

theorem g_ifnull (hX : gOK X K nL cc own Ts) {x : Nat} {off : Int} (hd : decode cc pc = .ok (.ifnull off, 3)) (kk : VG X l R K nL k n ws lv stk (pc + 3)) : VG X l R K nL k n ws lv (.ref x :: stk) pc := by
  obtain ⟨p, e, s, m, args, below, meth, c, A, Q⟩ := X
  obtain ⟨hx, hb, hml, hown, hts0, hK, hA⟩ := hX
  have hts : ∀ w ∈ Ts, w.before args s = true := fun w hw => by
    obtain ⟨a, ha, h⟩ := hts0 w hw
    rw [ha] at h
    exact h
  intro H locs ls hP hD hS hl
  exact lv_ifnull hx hb hd (kk H locs ls hP hD hS hl)
theorem g_ifnonnull (hX : gOK X K nL cc own Ts) {x : Nat} {off : Int} {tgt : Nat} (hd : decode cc pc = .ok (.ifnonnull off, 3)) (ht : (pc : Int) + off = (tgt : Int)) (kk : VG X l R K nL k n ws lv stk tgt) : VG X l R K nL k n ws lv (.ref x :: stk) pc := by
  obtain ⟨p, e, s, m, args, below, meth, c, A, Q⟩ := X
  obtain ⟨hx, hb, hml, hown, hts0, hK, hA⟩ := hX
  have hts : ∀ w ∈ Ts, w.before args s = true := fun w hw => by
    obtain ⟨a, ha, h⟩ := hts0 w hw
    rw [ha] at h
    exact h
  intro H locs ls hP hD hS hl
  exact lv_ifnonnull hx hb hd ht (kk H locs ls hP hD hS hl)
theorem g_ifnullN (hX : gOK X K nL cc own Ts) {off : Int} {tgt : Nat} (hd : decode cc pc = .ok (.ifnull off, 3)) (ht : (pc : Int) + off = (tgt : Int)) (kk : VG X l R K nL k n ws lv stk tgt) : VG X l R K nL k n ws lv (.null :: stk) pc := by
  obtain ⟨p, e, s, m, args, below, meth, c, A, Q⟩ := X
  obtain ⟨hx, hb, hml, hown, hts0, hK, hA⟩ := hX
  have hts : ∀ w ∈ Ts, w.before args s = true := fun w hw => by
    obtain ⟨a, ha, h⟩ := hts0 w hw
    rw [ha] at h
    exact h
  intro H locs ls hP hD hS hl
  exact lv_ifnullN hx hb hd ht (kk H locs ls hP hD hS hl)
theorem g_ifnonnullN (hX : gOK X K nL cc own Ts) {off : Int} (hd : decode cc pc = .ok (.ifnonnull off, 3)) (kk : VG X l R K nL k n ws lv stk (pc + 3)) : VG X l R K nL k n ws lv (.null :: stk) pc := by
  obtain ⟨p, e, s, m, args, below, meth, c, A, Q⟩ := X
  obtain ⟨hx, hb, hml, hown, hts0, hK, hA⟩ := hX
  have hts : ∀ w ∈ Ts, w.before args s = true := fun w hw => by
    obtain ⟨a, ha, h⟩ := hts0 w hw
    rw [ha] at h
    exact h
  intro H locs ls hP hD hS hl
  exact lv_ifnonnullN hx hb hd (kk H locs ls hP hD hS hl)
theorem g_tableOut (hX : gOK X K nL cc own Ts) {dflt lo hi : Int} {offs : Array Int} {len : Nat} {x : Int32} {tgt : Nat} (hd : decode cc pc = .ok (.tableswitch dflt lo hi offs, len)) (h : x.toInt < lo ∨ hi < x.toInt) (ht : (pc : Int) + dflt = (tgt : Int)) (kk : VG X l R K nL k n ws lv stk tgt) : VG X l R K nL k n ws lv (.int x :: stk) pc := by
  obtain ⟨p, e, s, m, args, below, meth, c, A, Q⟩ := X
  obtain ⟨hx, hb, hml, hown, hts0, hK, hA⟩ := hX
  have hts : ∀ w ∈ Ts, w.before args s = true := fun w hw => by
    obtain ⟨a, ha, h⟩ := hts0 w hw
    rw [ha] at h
    exact h
  intro H locs ls hP hD hS hl
  exact lv_tableOut hx hb hd h ht (kk H locs ls hP hD hS hl)
theorem g_tableIn (hX : gOK X K nL cc own Ts) {dflt lo hi : Int} {offs : Array Int} {len : Nat} {x : Int32} {off : Int} {tgt : Nat} (hd : decode cc pc = .ok (.tableswitch dflt lo hi offs, len)) (h1 : ¬ x.toInt < lo) (h2 : ¬ hi < x.toInt) (ho : offs[(x.toInt - lo).toNat]? = some off) (ht : (pc : Int) + off = (tgt : Int)) (kk : VG X l R K nL k n ws lv stk tgt) : VG X l R K nL k n ws lv (.int x :: stk) pc := by
  obtain ⟨p, e, s, m, args, below, meth, c, A, Q⟩ := X
  obtain ⟨hx, hb, hml, hown, hts0, hK, hA⟩ := hX
  have hts : ∀ w ∈ Ts, w.before args s = true := fun w hw => by
    obtain ⟨a, ha, h⟩ := hts0 w hw
    rw [ha] at h
    exact h
  intro H locs ls hP hD hS hl
  exact lv_tableIn hx hb hd h1 h2 ho ht (kk H locs ls hP hD hS hl)
theorem g_get (hX : gOK X K nL cc own Ts) {ref C : String} {T : u_T} {N ci index a : Nat} (hin : ∀ w ∈ u_ws C T N, w ∈ Ts) (q0 : Nat) {fs : List Value} (he : ws[q0]? = some (a, .inr (ci, fs))) (hc : vwCl[ci]? = some (C, T, N)) (j : Nat) (hj : j < N) (hlink : Cond.fieldLink own index ref (T j).2.1 (T j).2.2.1 ∈ Ts) (href : (T j).1 = ref) {v : Value} (hv : fs[j]? = some v) (hd : decode cc pc = .ok (.getfield index, 3)) (kk : VG X l R K nL k n ws lv (v :: stk) (pc + 3)) : VG X l R K nL k n ws lv (.ref a :: stk) pc := by
  obtain ⟨p, e, s, m, args, below, meth, c, A, Q⟩ := X
  obtain ⟨hx, hb, hml, hown, hts0, hK, hA⟩ := hX
  have hts : ∀ w ∈ Ts, w.before args s = true := fun w hw => by
    obtain ⟨a, ha, h⟩ := hts0 w hw
    rw [ha] at h
    exact h
  intro H locs ls hP hD hS hl
  subst href
  exact va_get hx hb hts hin hown hK.1 hP q0 he hc j hj (hts _ hlink) (fun _ h => h) hv hd (kk H locs ls hP hD hS hl)
theorem g_put (hX : gOK X K nL cc own Ts) {ref C : String} {T : u_T} {N ci index a : Nat} (hin : ∀ w ∈ u_ws C T N, w ∈ Ts) (ty0 : Nat → FieldType) (hty : ∀ k, k < N → parseFieldDescriptor (T k).2.2.1 = some (ty0 k)) (hnm : ∀ a, a < N → ∀ b, b < N → a ≠ b → (T a).2.1 ≠ (T b).2.1) (q0 : Nat) {fs : List Value} (he : ws[q0]? = some (a, .inr (ci, fs))) (hc : vwCl[ci]? = some (C, T, N)) (j : Nat) (hj : j < N) (hlink : Cond.fieldLink own index ref (T j).2.1 (T j).2.2.1 ∈ Ts) (href : (T j).1 = ref) (hfin : (T j).2.2.2 = false) {v : Value} (hn : narrow (ty0 j) v = v) (hfit : fits (ty0 j) v = true) (hl9 : j < fs.length) {ws' : va_W} (hw : ws.set q0 (a, .inr (ci, fs.set j v)) = ws') (hd : decode cc pc = .ok (.putfield index, 3)) (kk : VG X l R K nL k n ws' lv stk (pc + 3)) : VG X l R K nL k n ws lv (v :: .ref a :: stk) pc := by
  obtain ⟨p, e, s, m, args, below, meth, c, A, Q⟩ := X
  obtain ⟨hx, hb, hml, hown, hts0, hK, hA⟩ := hX
  have hts : ∀ w ∈ Ts, w.before args s = true := fun w hw => by
    obtain ⟨a, ha, h⟩ := hts0 w hw
    rw [ha] at h
    exact h
  intro H locs ls hP hD hS hl
  subst href hw
  exact va_put hx hb hts hin ty0 hty hnm hown hK.1 hP hD hS q0 he hc j hj (hts _ hlink) (fun _ h => h) hfin (hty j hj) hn hfit hl9 hd (fun H locs hP hD hS => kk H locs ls hP hD hS hl)
theorem g_putF (hX : gOK X K nL cc own Ts) {ref C : String} {T : u_T} {N ci index a : Nat} (hin2 : gIn X) (hin : ∀ w ∈ u_ws C T N, w ∈ Ts) (ty0 : Nat → FieldType) (hty : ∀ k, k < N → parseFieldDescriptor (T k).2.2.1 = some (ty0 k)) (hnm : ∀ a, a < N → ∀ b, b < N → a ≠ b → (T a).2.1 ≠ (T b).2.1) (q0 : Nat) {fs : List Value} (he : ws[q0]? = some (a, .inr (ci, fs))) (hc : vwCl[ci]? = some (C, T, N)) (j : Nat) (hj : j < N) (hlink : Cond.fieldLink own index ref (T j).2.1 (T j).2.2.1 ∈ Ts) (href : (T j).1 = ref) (hfin : (T j).2.2.2 = true) (hdecl : (T j).1 = own) {v : Value} (hn : narrow (ty0 j) v = v) (hfit : fits (ty0 j) v = true) (hl9 : j < fs.length) {ws' : va_W} (hw : ws.set q0 (a, .inr (ci, fs.set j v)) = ws') (hd : decode cc pc = .ok (.putfield index, 3)) (kk : VG X l R K nL k n ws' lv stk (pc + 3)) : VG X l R K nL k n ws lv (v :: .ref a :: stk) pc := by
  obtain ⟨p, e, s, m, args, below, meth, c, A, Q⟩ := X
  obtain ⟨hx, hb, hml, hown, hts0, hK, hA⟩ := hX
  have hts : ∀ w ∈ Ts, w.before args s = true := fun w hw => by
    obtain ⟨a, ha, h⟩ := hts0 w hw
    rw [ha] at h
    exact h
  intro H locs ls hP hD hS hl
  subst href hw
  exact va_putF hx hb hts hin ty0 hty hnm hown hK.1 hP hD hS q0 he hc j hj (hts _ hlink) (fun _ h => h) hfin hin2 hdecl (hty j hj) hn hfit hl9 hd (fun H locs hP hD hS => kk H locs ls hP hD hS hl)
theorem g_iald (hX : gOK X K nL cc own Ts) {a N i : Nat} {f : Nat → Int32} {v : Int32} (q0 : Nat) (ha : ws[q0]? = some (a, .inl (K.2.1, N, .inl f))) (hi : i < N) (hN : N < 2 ^ 31) (hv : f i = v) (hd : decode cc pc = .ok (.iaload, 1)) (kk : VG X l R K nL k n ws lv (.int v :: stk) (pc + 1)) : VG X l R K nL k n ws lv (.int (nI i) :: .ref a :: stk) pc := by
  obtain ⟨p, e, s, m, args, below, meth, c, A, Q⟩ := X
  obtain ⟨hx, hb, hml, hown, hts0, hK, hA⟩ := hX
  have hts : ∀ w ∈ Ts, w.before args s = true := fun w hw => by
    obtain ⟨a, ha, h⟩ := hts0 w hw
    rw [ha] at h
    exact h
  intro H locs ls hP hD hS hl
  have e : (nI i).toNatClampNeg = i := nI_clamp (Nat.lt_trans hi hN)
  subst hv
  refine va_iald hx hb hK.1 hP q0 0 ha rfl (vp_in_nI hi hN) hd ?_
  rw [e]
  exact kk H locs ls hP hD hS hl
theorem g_zald (hX : gOK X K nL cc own Ts) {a N i : Nat} {f : Nat → Int32} {v : Int32} (q0 : Nat) (ha : ws[q0]? = some (a, .inl (K.2.2.1, N, .inl f))) (hi : i < N) (hN : N < 2 ^ 31) (hv : f i = v) (hd : decode cc pc = .ok (.baload, 1)) (kk : VG X l R K nL k n ws lv (.int v :: stk) (pc + 1)) : VG X l R K nL k n ws lv (.int (nI i) :: .ref a :: stk) pc := by
  obtain ⟨p, e, s, m, args, below, meth, c, A, Q⟩ := X
  obtain ⟨hx, hb, hml, hown, hts0, hK, hA⟩ := hX
  have hts : ∀ w ∈ Ts, w.before args s = true := fun w hw => by
    obtain ⟨a, ha, h⟩ := hts0 w hw
    rw [ha] at h
    exact h
  intro H locs ls hP hD hS hl
  have e : (nI i).toNatClampNeg = i := nI_clamp (Nat.lt_trans hi hN)
  subst hv
  refine va_zald hx hb hK.1 hP q0 1 ha rfl (vp_in_nI hi hN) hd ?_
  rw [e]
  exact kk H locs ls hP hD hS hl
theorem g_iast (hX : gOK X K nL cc own Ts) {a N i : Nat} {f : Nat → Int32} {x : Int32} (q0 : Nat) (ha : ws[q0]? = some (a, .inl (K.2.1, N, .inl f))) (hi : i < N) (hN : N < 2 ^ 31) {ws' : va_W} (hw : ws.set q0 (a, .inl (K.2.1, N, .inl (upd f i x))) = ws') (hd : decode cc pc = .ok (.iastore, 1)) (kk : VG X l R K nL k n ws' lv stk (pc + 1)) : VG X l R K nL k n ws lv (.int x :: .int (nI i) :: .ref a :: stk) pc := by
  obtain ⟨p, e, s, m, args, below, meth, c, A, Q⟩ := X
  obtain ⟨hx, hb, hml, hown, hts0, hK, hA⟩ := hX
  have hts : ∀ w ∈ Ts, w.before args s = true := fun w hw => by
    obtain ⟨a, ha, h⟩ := hts0 w hw
    rw [ha] at h
    exact h
  intro H locs ls hP hD hS hl
  have e : (nI i).toNatClampNeg = i := nI_clamp (Nat.lt_trans hi hN)
  subst hw
  refine va_iast hx hb hK.1 hP hD hS q0 0 ha rfl (vp_in_nI hi hN) hd (fun H locs hP hD hS => ?_)
  rw [e] at hP hD
  exact kk H locs ls hP hD hS hl
theorem g_zast (hX : gOK X K nL cc own Ts) {a N i : Nat} {f : Nat → Int32} {x : Int32} (q0 : Nat) (ha : ws[q0]? = some (a, .inl (K.2.2.1, N, .inl f))) (hi : i < N) (hN : N < 2 ^ 31) (hxv : vp_nar .boolean x = x) {ws' : va_W} (hw : ws.set q0 (a, .inl (K.2.2.1, N, .inl (upd f i x))) = ws') (hd : decode cc pc = .ok (.bastore, 1)) (kk : VG X l R K nL k n ws' lv stk (pc + 1)) : VG X l R K nL k n ws lv (.int x :: .int (nI i) :: .ref a :: stk) pc := by
  obtain ⟨p, e, s, m, args, below, meth, c, A, Q⟩ := X
  obtain ⟨hx, hb, hml, hown, hts0, hK, hA⟩ := hX
  have hts : ∀ w ∈ Ts, w.before args s = true := fun w hw => by
    obtain ⟨a, ha, h⟩ := hts0 w hw
    rw [ha] at h
    exact h
  intro H locs ls hP hD hS hl
  have e : (nI i).toNatClampNeg = i := nI_clamp (Nat.lt_trans hi hN)
  subst hw
  refine va_zast hx hb hK.1 hP hD hS q0 1 ha rfl (vp_in_nI hi hN) hd (fun H locs hP hD hS => ?_)
  rw [e, hxv] at hP hD
  exact kk H locs ls hP hD hS hl
theorem g_aldq (hX : gOK X K nL cc own Ts) {a N i : Nat} {f : Nat → Option Nat} {v : Value} (q0 : Nat) (ha : ws[q0]? = some (a, .inl (K.2.2.2, N, .inr (.inr (.inr (.inr f)))))) (hi : i < N) (hN : N < 2 ^ 31) (hv : va_rf (f i) = v) (hd : decode cc pc = .ok (.aaload, 1)) (kk : VG X l R K nL k n ws lv (v :: stk) (pc + 1)) : VG X l R K nL k n ws lv (.int (nI i) :: .ref a :: stk) pc := by
  obtain ⟨p, e, s, m, args, below, meth, c, A, Q⟩ := X
  obtain ⟨hx, hb, hml, hown, hts0, hK, hA⟩ := hX
  have hts : ∀ w ∈ Ts, w.before args s = true := fun w hw => by
    obtain ⟨a, ha, h⟩ := hts0 w hw
    rw [ha] at h
    exact h
  intro H locs ls hP hD hS hl
  have e : (nI i).toNatClampNeg = i := nI_clamp (Nat.lt_trans hi hN)
  subst hv
  refine va_aldq hx hb hK.1 hP q0 2 ha rfl (vp_in_nI hi hN) hd ?_
  rw [e]
  exact kk H locs ls hP hD hS hl
theorem g_astq (hX : gOK X K nL cc own Ts) {a N i v : Nat} {vs : List Value} {f : Nat → Option Nat} (q0 qk : Nat) (ha : ws[q0]? = some (a, .inl (K.2.2.2, N, .inr (.inr (.inr (.inr f)))))) (hv : ws[qk]? = some (v, .inr (0, vs))) (hi : i < N) (hN : N < 2 ^ 31) {ws' : va_W} (hw : ws.set q0 (a, .inl (K.2.2.2, N, .inr (.inr (.inr (.inr (va_up f i (some v))))))) = ws') (hd : decode cc pc = .ok (.aastore, 1)) (kk : VG X l R K nL k n ws' lv stk (pc + 1)) : VG X l R K nL k n ws lv (.ref v :: .int (nI i) :: .ref a :: stk) pc := by
  obtain ⟨p, e, s, m, args, below, meth, c, A, Q⟩ := X
  obtain ⟨hx, hb, hml, hown, hts0, hK, hA⟩ := hX
  have hts : ∀ w ∈ Ts, w.before args s = true := fun w hw => by
    obtain ⟨a, ha, h⟩ := hts0 w hw
    rw [ha] at h
    exact h
  intro H locs ls hP hD hS hl
  have e : (nI i).toNatClampNeg = i := nI_clamp (Nat.lt_trans hi hN)
  subst hw
  refine va_astq hx hb hK.1 hP hD hS q0 2 qk 0 (r := (RX0, TX0, 2)) ha rfl hv rfl (vp_in_nI hi hN) hd (fun H locs hP hD hS => ?_)
  rw [e] at hP hD
  exact kk H locs ls hP hD hS hl
theorem gK.arr {K : gT} {U : State} (h : gK K U) {cA : ClassId} (h2 : va_K K.1 vwCl (gTy K ++ [(cA, .int)]) U) : cA = K.2.1 := by
  have h3 := (h2.2 3 (cA, .int) rfl).2
  have h4 := (h2.2 0 (K.2.1, .int) rfl).2
  exact Option.some.inj (h3.symm.trans h4)
theorem gK.arrZ {K : gT} {U : State} (h : gK K U) {cA : ClassId} (h2 : va_K K.1 vwCl (gTy K ++ [(cA, .boolean)]) U) : cA = K.2.2.1 := by
  have h3 := (h2.2 3 (cA, .boolean) rfl).2
  have h4 := (h2.2 1 (K.2.2.1, .boolean) rfl).2
  exact Option.some.inj (h3.symm.trans h4)
theorem gK.arrQ {K : gT} {U : State} (h : gK K U) {cA : ClassId} (h2 : va_K K.1 vwCl (gTy K ++ [(cA, .object RX0)]) U) : cA = K.2.2.2 := by
  obtain ⟨-, -, -, -, -, h3⟩ := (h2.2 3 (cA, .object RX0) rfl).2
  obtain ⟨-, -, -, -, -, h4⟩ := (h2.2 2 (K.2.2.2, .object RX0) rfl).2
  exact Option.some.inj (h3.symm.trans h4)

theorem g_newI (hX : gOK X K nL cc own Ts) {N : Nat} (harr : Cond.arrayClass .int ∈ Ts) (hN : N < 2 ^ 31) (hbytes : N * 4 ≤ 536870912) (hcells : k + 1 ≤ R.cells) (hslots : n + N ≤ R.slots) (hd : decode cc pc = .ok (.newarray .int, 2)) (kk : ∀ q : Nat, VG X l R K nL (k + 1) (n + N) (ws ++ [(q, .inl (K.2.1, N, .inl (fun _ => 0)))]) lv (.ref q :: stk) (pc + 2)) : VG X l R K nL k n ws lv (.int (nI N) :: stk) pc := by
  obtain ⟨p, e, s, m, args, below, meth, c, A, Q⟩ := X
  obtain ⟨hx, hb, hml, hown, hts0, hK, hA⟩ := hX
  have hts : ∀ w ∈ Ts, w.before args s = true := fun w hw => by
    obtain ⟨a, ha, h⟩ := hts0 w hw
    rw [ha] at h
    exact h
  intro H locs ls hP hD hS hl
  refine va_newa (atype := .int) (ty := .int) (N' := N) (a0 := (N, .inl (fun _ => 0))) hx hb (hts _ harr) rfl hK.1 hP hD hS hA (fun cA => ?_) (nI_pos hN) (nI_clamp hN) ?_ hcells hslots hd (fun q cA H hK2 hP hD hS => ?_)
  · rw [vp_cell_i]
    rfl
  · refine Nat.le_trans (Nat.mul_le_mul_left N ?_) hbytes
    decide
  · have e := gK.arr hK hK2
    subst e
    exact kk q H locs ls hP hD hS hl
theorem g_newZ (hX : gOK X K nL cc own Ts) {N : Nat} (harr : Cond.arrayClass .boolean ∈ Ts) (hN : N < 2 ^ 31) (hbytes : N * 4 ≤ 536870912) (hcells : k + 1 ≤ R.cells) (hslots : n + N ≤ R.slots) (hd : decode cc pc = .ok (.newarray .boolean, 2)) (kk : ∀ q : Nat, VG X l R K nL (k + 1) (n + N) (ws ++ [(q, .inl (K.2.2.1, N, .inl (fun _ => 0)))]) lv (.ref q :: stk) (pc + 2)) : VG X l R K nL k n ws lv (.int (nI N) :: stk) pc := by
  obtain ⟨p, e, s, m, args, below, meth, c, A, Q⟩ := X
  obtain ⟨hx, hb, hml, hown, hts0, hK, hA⟩ := hX
  have hts : ∀ w ∈ Ts, w.before args s = true := fun w hw => by
    obtain ⟨a, ha, h⟩ := hts0 w hw
    rw [ha] at h
    exact h
  intro H locs ls hP hD hS hl
  refine va_newa (atype := .boolean) (ty := .boolean) (N' := N) (a0 := (N, .inl (fun _ => 0))) hx hb (hts _ harr) rfl hK.1 hP hD hS hA (fun cA => ?_) (nI_pos hN) (nI_clamp hN) ?_ hcells hslots hd (fun q cA H hK2 hP hD hS => ?_)
  · rw [vp_cell_i]
    rfl
  · refine Nat.le_trans (Nat.mul_le_mul_left N ?_) hbytes
    decide
  · have e := gK.arrZ hK hK2
    subst e
    exact kk q H locs ls hP hD hS hl
theorem g_newQ (hX : gOK X K nL cc own Ts) {N index : Nat} (hcl : Cond.classLink own index RX0 ∈ Ts) (hN : N < 2 ^ 31) (hbytes : N * 4 ≤ 536870912) (hcells : k + 1 ≤ R.cells) (hslots : n + N ≤ R.slots) (hd : decode cc pc = .ok (.anewarray index, 3)) (kk : ∀ q : Nat, VG X l R K nL (k + 1) (n + N) (ws ++ [(q, .inl (K.2.2.2, N, .inr (.inr (.inr (.inr (fun _ => none))))))]) lv (.ref q :: stk) (pc + 3)) : VG X l R K nL k n ws lv (.int (nI N) :: stk) pc := by
  obtain ⟨p, e, s, m, args, below, meth, c, A, Q⟩ := X
  obtain ⟨hx, hb, hml, hown, hts0, hK, hA⟩ := hX
  have hts : ∀ w ∈ Ts, w.before args s = true := fun w hw => by
    obtain ⟨a, ha, h⟩ := hts0 w hw
    rw [ha] at h
    exact h
  intro H locs ls hP hD hS hl
  refine va_newq (C := RX0) (N' := N) hx hb hown (hts _ hcl) hK.2.1 hK.1 hP hD hS hA (nI_pos hN) (nI_clamp hN) hbytes hcells hslots hd (fun q cA H hK2 hP hD hS => ?_)
  have e := gK.arrQ hK hK2
  subst e
  exact kk q H locs ls hP hD hS hl
theorem g_new (hX : gOK X K nL cc own Ts) {C : String} {T : u_T} {N ci index : Nat} (hin : ∀ w ∈ u_ws C T N, w ∈ Ts) (ty : Nat → FieldType) (hty : ∀ k, k < N → parseFieldDescriptor (T k).2.2.1 = some (ty k)) (hcl : Cond.classLink own index C ∈ Ts) (hinst : Cond.instantiable C N ∈ Ts) (hini : Cond.initialized C ∈ Ts) (hc : vwCl[ci]? = some (C, T, N)) {fs : List Value} (hfs : ∀ j, j < N → defaultValue (ty j) = vp_V fs j) (hcells : k + 1 ≤ R.cells) (hslots : n + N ≤ R.slots) (hd : decode cc pc = .ok (.new index, 3)) (kk : ∀ q : Nat, VG X l R K nL (k + 1) (n + N) (ws ++ [(q, .inr (ci, fs))]) lv (.ref q :: stk) (pc + 3)) : VG X l R K nL k n ws lv stk pc := by
  obtain ⟨p, e, s, m, args, below, meth, c, A, Q⟩ := X
  obtain ⟨hx, hb, hml, hown, hts0, hK, hA⟩ := hX
  have hts : ∀ w ∈ Ts, w.before args s = true := fun w hw => by
    obtain ⟨a, ha, h⟩ := hts0 w hw
    rw [ha] at h
    exact h
  intro H locs ls hP hD hS hl
  exact va_new hx hb hts hin ty hty hown (hts _ hcl) (hts _ hinst) (hts _ hini) hK.1 hP hD hS hA hc hfs hcells hslots hd (fun q H hP hD hS => kk q H locs ls hP hD hS hl)
theorem g_copy (hX : gOK X K nL cc own Ts) {index a N0 N1 sp dp z a0 : Nat} {f g : Nat → Int32} (hlink : Cond.methodLink own index arraycopyName ∈ Ts) (hnat : Cond.native arraycopyName ∈ Ts) (hstat : Cond.static arraycopyName ∈ Ts) (hini : Cond.initialized "java/lang/System" ∈ Ts) (q0 q1 : Nat) (ha0 : ws[q0]? = some (a0, .inl (K.2.1, N0, .inl f))) (ha1 : ws[q1]? = some (a, .inl (K.2.1, N1, .inl g))) (h4 : sp + z ≤ N0) (h5 : dp + z ≤ N1) (hN0 : N0 < 2 ^ 31) (hN1 : N1 < 2 ^ 31) (hframes : 1 ≤ R.frames) (hlocals : (stk.map fun v => v.category).sum + (nativeFrameWords "java/lang/System" "arraycopy" 5 + 11) ≤ R.locals) {ws' : va_W} (hw : ws.set q1 (a, .inl (K.2.1, N1, .inl (va_cpy f g sp dp z))) = ws') (hd : decode cc pc = .ok (.invokestatic index, 3)) (kk : VG X l R K nL k n ws' lv stk (pc + 3)) : VG X l R K nL k n ws lv (.int (nI z) :: .int (nI dp) :: .ref a :: .int (nI sp) :: .ref a0 :: stk) pc := by
  obtain ⟨p, e, s, m, args, below, meth, c, A, Q⟩ := X
  obtain ⟨hx, hb, hml, hown, hts0, hK, hA⟩ := hX
  have hts : ∀ w ∈ Ts, w.before args s = true := fun w hw => by
    obtain ⟨a, ha, h⟩ := hts0 w hw
    rw [ha] at h
    exact h
  intro H locs ls hP hD hS hl
  have e1 : (nI sp).toNatClampNeg = sp := nI_clamp (by omega)
  have e2 : (nI dp).toNatClampNeg = dp := nI_clamp (by omega)
  have e3 : (nI z).toNatClampNeg = z := nI_clamp (by omega)
  subst hw
  refine va_copyi hx hb (by rw [hml]; exact hl.1.symm) hown (hts _ hlink) (hts _ hnat) (hts _ hstat) (hts _ hini) hK.1 hP hD hS q0 q1 0 0 ha0 ha1 rfl rfl rfl (nI_pos (by omega)) (nI_pos (by omega)) (nI_pos (by omega)) (by rw [e1, e3]; exact h4) (by rw [e2, e3]; exact h5) (fun _ _ => rfl) hframes hlocals hd (fun H locs hP hD hS => ?_)
  rw [e1, e2, e3] at hP hD
  exact kk H locs ls hP hD hS hl
theorem g_mmax (hX : gOK X K nL cc own Ts) {index : Nat} {x y z : Int32} (hlink : Cond.methodLink own index Lib.Math.max.name ∈ Ts) (hstat : Cond.static Lib.Math.max.name ∈ Ts) (hini : Cond.initialized "java/lang/Math" ∈ Ts) (hcode : Cond.code Lib.Math.max.name Lib.Math.max.code 2 (some .int) ∈ Ts) (hframes : 1 ≤ R.frames) (hlocals : (stk.map fun v => v.category).sum + 13 ≤ R.locals) (hc : k ≤ R.cells) (hs : n ≤ R.slots) (hz : (if x < y then y else x) = z) (hd : decode cc pc = .ok (.invokestatic index, 3)) (kk : VG X l R K nL k n ws lv (.int z :: stk) (pc + 3)) : VG X l R K nL k n ws lv (.int y :: .int x :: stk) pc := by
  obtain ⟨p, e, s, m, args, below, meth, c, A, Q⟩ := X
  obtain ⟨hx, hb, hml, hown, hts0, hK, hA⟩ := hX
  have hts : ∀ w ∈ Ts, w.before args s = true := fun w hw => by
    obtain ⟨a, ha, h⟩ := hts0 w hw
    rw [ha] at h
    exact h
  intro H locs ls hP hD hS hl
  subst hz
  exact va_mmax hx hb (by rw [hml]; exact hl.1.symm) hown (hts _ hlink) (hts _ hstat) (hts _ hini) (hts _ hcode) hframes hlocals hc hs hd (kk H locs ls hP hD hS hl)
theorem g_mmin (hX : gOK X K nL cc own Ts) {index : Nat} {x y z : Int32} (hlink : Cond.methodLink own index Lib.Math.min.name ∈ Ts) (hstat : Cond.static Lib.Math.min.name ∈ Ts) (hini : Cond.initialized "java/lang/Math" ∈ Ts) (hcode : Cond.code Lib.Math.min.name Lib.Math.min.code 2 (some .int) ∈ Ts) (hframes : 1 ≤ R.frames) (hlocals : (stk.map fun v => v.category).sum + 13 ≤ R.locals) (hc : k ≤ R.cells) (hs : n ≤ R.slots) (hz : (if y < x then y else x) = z) (hd : decode cc pc = .ok (.invokestatic index, 3)) (kk : VG X l R K nL k n ws lv (.int z :: stk) (pc + 3)) : VG X l R K nL k n ws lv (.int y :: .int x :: stk) pc := by
  obtain ⟨p, e, s, m, args, below, meth, c, A, Q⟩ := X
  obtain ⟨hx, hb, hml, hown, hts0, hK, hA⟩ := hX
  have hts : ∀ w ∈ Ts, w.before args s = true := fun w hw => by
    obtain ⟨a, ha, h⟩ := hts0 w hw
    rw [ha] at h
    exact h
  intro H locs ls hP hD hS hl
  subst hz
  exact va_mmin hx hb (by rw [hml]; exact hl.1.symm) hown (hts _ hlink) (hts _ hstat) (hts _ hini) (hts _ hcode) hframes hlocals hc hs hd (kk H locs ls hP hD hS hl)
theorem g_objInit (hX : gOK X K nL cc own Ts) {index a : Nat} (hlink : Cond.methodLink own index objectInit ∈ Ts) (hinst : Cond.instanceMethod objectInit ∈ Ts) (hcode : Cond.code objectInit ⟨#[0xb1]⟩ 1 none ∈ Ts) (hframes : 1 ≤ R.frames) (hlocals : (stk.map fun v => v.category).sum + 12 ≤ R.locals) (hd : decode cc pc = .ok (.invokespecial index, 3)) (kk : VG X l R K nL k n ws lv stk (pc + 3)) : VG X l R K nL k n ws lv (.ref a :: stk) pc := by
  obtain ⟨p, e, s, m, args, below, meth, c, A, Q⟩ := X
  obtain ⟨hx, hb, hml, hown, hts0, hK, hA⟩ := hX
  have hts : ∀ w ∈ Ts, w.before args s = true := fun w hw => by
    obtain ⟨a, ha, h⟩ := hts0 w hw
    rw [ha] at h
    exact h
  intro H locs ls hP hD hS hl
  refine W.objInit hx hb hown (hts _ hlink) (hts _ hinst) (hts _ hcode) rfl (by rw [hml]; exact hl.1) rfl hd hframes (by show 2 * 0 + _ + 12 ≤ _; omega) ?_
  exact W.eq (g2 := F0 m (pc + 3) ls stk) rfl (kk H locs ls hP hD hS hl)
def gGo (X : gX) (l : Launch) (R : Room) (K : gT) (nL k n mc ms : Nat) (ws : va_W) (lv : List (Nat × Value)) (st stk : List Value) (pc : Nat) (Qf : Nat → Array Value → State → Outcome → State → Prop) (wc : va_W) : Prop := match X with
  | (p, e, s, m, args, below, meth, c, A, Q) => ∀ (H : Heap) (locs : List Loc) (ls : Array Slot), va_P K.1 vwCl ws H → va_D A ws → va_S A s.heap H locs → lv_has ls nL lv → ∃ a : Array Value, va_Run p l e R s m args below meth c H locs k n mc ms (F0 m pc ls st) stk (Qf H.size a) (va_A wc H.size)

theorem g_goV (hX : gOK X K nL cc own Ts) {index maxL mc ms : Nat} {y : MethodName} {bytes : ByteArray} {ret : Option FieldType} {wsl wsl' : List Cond} {rm : Room} {Qf : Nat → Array Value → State → Outcome → State → Prop} {As : List Value} {wc : va_W} {b : Nat} {st : List Value} (hM : ∀ sz : Nat, Met l y wsl rm (gPre K (.ref b :: As) wc sz) (Qf sz) mc ms (va_A wc sz)) (hw : wsl = .code y bytes maxL ret :: wsl') (hrc : rm.cells = mc) (hrs : rm.slots = ms) {C : String} {T : u_T} {N ci : Nat} {fs : List Value} (hT : GoodIn Ts (wsV own index C y wsl)) (hd2 : y.cls = C ∧ y.cls ≠ "java/lang/invoke/MethodHandle" ∧ y.cls ≠ "java/lang/invoke/VarHandle" ∧ (parseMethodDescriptor y.desc).map (fun d => d.parameters.length) = some As.length) (hc : vwCl[ci]? = some (C, T, N)) (z : Nat) (hz : wc[z]? = some (b, .inr (ci, fs))) (hR : rm.frames + 1 ≤ R.frames ∧ 8 + (maxL + 11) + rm.locals ≤ R.locals) (isC : List Nat) (hnC : va_nd isC = true) (hC : isC.map (fun i => ws[i]?) = wc.map some) (hst : st = As.reverse ++ .ref b :: stk) (hcat : (stk.map fun v => v.category).sum ≤ 8) (hd : decode cc pc = .ok (.invokevirtual index, 3)) (hf : k + mc ≤ R.cells ∧ n + ms ≤ R.slots) : gGo X l R K nL k n mc ms ws lv st stk pc Qf wc := by
  obtain ⟨p, e, s, m, args, below, meth, c, A, Q⟩ := X
  obtain ⟨hx, hb, hml, hown, hts0, hK, hA⟩ := hX
  have hts : ∀ w ∈ Ts, w.before args s = true := fun w hw => by
    obtain ⟨a, ha, h⟩ := hts0 w hw
    rw [ha] at h
    exact h
  intro H locs ls hP hD hS hl
  have hPc : va_P K.1 vwCl wc H := hP.sub isC (by
    have h2 : ∀ (ps : List Nat) (ws' : va_W), ps.map (fun i => ws[i]?) = ws'.map some → ps.filterMap (fun i => ws[i]?) = ws' := by
      intro ps
      induction ps with
      | nil => intro ws' h; cases ws' with | nil => rfl | cons a b => simp at h
      | cons i is ih =>
        intro ws' h
        cases ws' with
        | nil => simp at h
        | cons a b =>
          simp only [List.map_cons, List.cons.injEq] at h
          rw [List.filterMap_cons, h.1]
          simp only [ih b h.2]
    exact h2 isC wc hC)
  have hDc : va_D (fun _ => True) wc := (hD.sub isC hnC hC).weaken (fun _ _ _ _ => trivial)
  exact ⟨_, va_runV (As := As) (rest := stk) ⟨hx, hb, hml, hown, hts⟩ (hM H.size) (cwV As.length hts hT hw hrc hrs hd2 hR) ⟨gPre.blind _ _ _ _, va_recv hK.1 hPc hc hz, fun U hU hW => ⟨rfl, by rw [hU], by rw [hU]; exact hPc, gK.warm hW hK, hDc⟩⟩ rfl rfl hl.1 hst (lv_room hcat) hd hf⟩
theorem g_goS (hX : gOK X K nL cc own Ts) {index maxL mc ms : Nat} {y : MethodName} {bytes : ByteArray} {ret : Option FieldType} {wsl wsl' : List Cond} {rm : Room} {Qf : Nat → Array Value → State → Outcome → State → Prop} {As : List Value} {wc : va_W} {st : List Value} (hM : ∀ sz : Nat, Met l y wsl rm (gPre K (As) wc sz) (Qf sz) mc ms (va_A wc sz)) (hw : wsl = .code y bytes maxL ret :: wsl') (hrc : rm.cells = mc) (hrs : rm.slots = ms) (hT : GoodIn Ts (va_wsS own index y wsl)) (hd2 : y.cls ≠ "java/lang/invoke/MethodHandle" ∧ y.cls ≠ "java/lang/invoke/VarHandle" ∧ (parseMethodDescriptor y.desc).map (fun d => d.parameters.length) = some As.length) (hR : rm.frames + 1 ≤ R.frames ∧ 8 + (maxL + 11) + rm.locals ≤ R.locals) (isC : List Nat) (hnC : va_nd isC = true) (hC : isC.map (fun i => ws[i]?) = wc.map some) (hst : st = As.reverse ++ stk) (hcat : (stk.map fun v => v.category).sum ≤ 8) (hd : decode cc pc = .ok (.invokestatic index, 3)) (hf : k + mc ≤ R.cells ∧ n + ms ≤ R.slots) : gGo X l R K nL k n mc ms ws lv st stk pc Qf wc := by
  obtain ⟨p, e, s, m, args, below, meth, c, A, Q⟩ := X
  obtain ⟨hx, hb, hml, hown, hts0, hK, hA⟩ := hX
  have hts : ∀ w ∈ Ts, w.before args s = true := fun w hw => by
    obtain ⟨a, ha, h⟩ := hts0 w hw
    rw [ha] at h
    exact h
  intro H locs ls hP hD hS hl
  have hPc : va_P K.1 vwCl wc H := hP.sub isC (by
    have h2 : ∀ (ps : List Nat) (ws' : va_W), ps.map (fun i => ws[i]?) = ws'.map some → ps.filterMap (fun i => ws[i]?) = ws' := by
      intro ps
      induction ps with
      | nil => intro ws' h; cases ws' with | nil => rfl | cons a b => simp at h
      | cons i is ih =>
        intro ws' h
        cases ws' with
        | nil => simp at h
        | cons a b =>
          simp only [List.map_cons, List.cons.injEq] at h
          rw [List.filterMap_cons, h.1]
          simp only [ih b h.2]
    exact h2 isC wc hC)
  have hDc : va_D (fun _ => True) wc := (hD.sub isC hnC hC).weaken (fun _ _ _ _ => trivial)
  exact ⟨_, va_runS (As := As) (rest := stk) ⟨hx, hb, hml, hown, hts⟩ (hM H.size) (va_cwS As.length hts hT hw hrc hrs hd2 hR) ⟨gPre.blind _ _ _ _, fun U hU hW => ⟨rfl, by rw [hU], by rw [hU]; exact hPc, gK.warm hW hK, hDc⟩⟩ rfl rfl hl.1 hst (lv_room hcat) hd hf⟩
theorem g_goI (hX : gOK X K nL cc own Ts) {index maxL mc ms : Nat} {y : MethodName} {bytes : ByteArray} {wsl wsl' : List Cond} {rm : Room} {Qf : Nat → Array Value → State → Outcome → State → Prop} {As : List Value} {wc : va_W} {b : Nat} {st : List Value} (hM : ∀ sz : Nat, Met l y wsl rm (gPre K (.ref b :: As) wc sz) (Qf sz) mc ms (va_A wc sz)) (hw : wsl = .code y bytes maxL none :: wsl') (hrc : rm.cells = mc) (hrs : rm.slots = ms) (hT : GoodIn Ts wsl) (hini : Cond.initialized y.cls ∈ Ts) (hli : Cond.methodLink own index y ∈ Ts) (hinst : Cond.instanceMethod y ∈ Ts) (hy1 : y.name = "<init>") (hd2 : y.cls ≠ "java/lang/invoke/MethodHandle" ∧ y.cls ≠ "java/lang/invoke/VarHandle" ∧ (parseMethodDescriptor y.desc).map (fun d => d.parameters.length) = some As.length) (hR : rm.frames + 1 ≤ R.frames ∧ 8 + (maxL + 11) + rm.locals ≤ R.locals) (isC : List Nat) (hnC : va_nd isC = true) (hC : isC.map (fun i => ws[i]?) = wc.map some) (hst : st = As.reverse ++ .ref b :: stk) (hcat : (stk.map fun v => v.category).sum ≤ 8) (hd : decode cc pc = .ok (.invokespecial index, 3)) (hf : k + mc ≤ R.cells ∧ n + ms ≤ R.slots) : gGo X l R K nL k n mc ms ws lv st stk pc Qf wc := by
  obtain ⟨p, e, s, m, args, below, meth, c, A, Q⟩ := X
  obtain ⟨hx, hb, hml, hown, hts0, hK, hA⟩ := hX
  have hts : ∀ w ∈ Ts, w.before args s = true := fun w hw => by
    obtain ⟨a, ha, h⟩ := hts0 w hw
    rw [ha] at h
    exact h
  intro H locs ls hP hD hS hl
  have hPc : va_P K.1 vwCl wc H := hP.sub isC (by
    have h2 : ∀ (ps : List Nat) (ws' : va_W), ps.map (fun i => ws[i]?) = ws'.map some → ps.filterMap (fun i => ws[i]?) = ws' := by
      intro ps
      induction ps with
      | nil => intro ws' h; cases ws' with | nil => rfl | cons a b => simp at h
      | cons i is ih =>
        intro ws' h
        cases ws' with
        | nil => simp at h
        | cons a b =>
          simp only [List.map_cons, List.cons.injEq] at h
          rw [List.filterMap_cons, h.1]
          simp only [ih b h.2]
    exact h2 isC wc hC)
  have hDc : va_D (fun _ => True) wc := (hD.sub isC hnC hC).weaken (fun _ _ _ _ => trivial)
  exact ⟨_, va_runI (As := As) (rest := stk) ⟨hx, hb, hml, hown, hts⟩ (hM H.size) (cwI As.length hts hT hw hrc hrs (hts _ hini) (hts _ hli) (hts _ hinst) hy1 hd2 hR) ⟨gPre.blind _ _ _ _, fun U hU hW => ⟨rfl, by rw [hU], by rw [hU]; exact hPc, gK.warm hW hK, hDc⟩⟩ rfl rfl hl.1 hst (lv_room hcat) hd hf⟩
theorem g_goIN (hX : gOK X K nL cc own Ts) {index maxL mc ms : Nat} {y : MethodName} {bytes : ByteArray} {wsl wsl' : List Cond} {rm : Room} {Qf : Nat → Array Value → State → Outcome → State → Prop} {As : List Value} {wc : va_W} {b : Nat} {st : List Value} (hM : ∀ sz : Nat, Met l y wsl rm (gPre K (.ref b :: As) wc sz) (Qf sz) mc ms (va_A wc sz)) (hw : wsl = .code y bytes maxL none :: wsl') (hrc : rm.cells = mc) (hrs : rm.slots = ms) (hT : GoodIn Ts wsl) (hini : Cond.initialized y.cls ∈ Ts) (hidx : index = 17) (hye : y = yX0_init) (hoe : own = RX1) (hinst : Cond.instanceMethod y ∈ Ts) (hy1 : y.name = "<init>") (hd2 : y.cls ≠ "java/lang/invoke/MethodHandle" ∧ y.cls ≠ "java/lang/invoke/VarHandle" ∧ (parseMethodDescriptor y.desc).map (fun d => d.parameters.length) = some As.length) (hR : rm.frames + 1 ≤ R.frames ∧ 8 + (maxL + 11) + rm.locals ≤ R.locals) (isC : List Nat) (hnC : va_nd isC = true) (hC : isC.map (fun i => ws[i]?) = wc.map some) (hst : st = As.reverse ++ .ref b :: stk) (hcat : (stk.map fun v => v.category).sum ≤ 8) (hd : decode cc pc = .ok (.invokespecial index, 3)) (hf : k + mc ≤ R.cells ∧ n + ms ≤ R.slots) : gGo X l R K nL k n mc ms ws lv st stk pc Qf wc := by
  obtain ⟨p, e, s, m, args, below, meth, c, A, Q⟩ := X
  obtain ⟨hx, hb, hml, hown, hts0, hK, hA⟩ := hX
  have hts : ∀ w ∈ Ts, w.before args s = true := fun w hw => by
    obtain ⟨a, ha, h⟩ := hts0 w hw
    rw [ha] at h
    exact h
  intro H locs ls hP hD hS hl
  have hPc : va_P K.1 vwCl wc H := hP.sub isC (by
    have h2 : ∀ (ps : List Nat) (ws' : va_W), ps.map (fun i => ws[i]?) = ws'.map some → ps.filterMap (fun i => ws[i]?) = ws' := by
      intro ps
      induction ps with
      | nil => intro ws' h; cases ws' with | nil => rfl | cons a b => simp at h
      | cons i is ih =>
        intro ws' h
        cases ws' with
        | nil => simp at h
        | cons a b =>
          simp only [List.map_cons, List.cons.injEq] at h
          rw [List.filterMap_cons, h.1]
          simp only [ih b h.2]
    exact h2 isC wc hC)
  have hDc : va_D (fun _ => True) wc := (hD.sub isC hnC hC).weaken (fun _ _ _ _ => trivial)
  exact ⟨_, va_runIN (As := As) (rest := stk) (host := "TwoTierCache") ⟨hx, hb, hml, hown, hts⟩ (hM H.size) ⟨va_cnB As.length hts hT hw hrc hrs (by subst hidx hye hoe; exact hK.2.2) (hts _ hini) hd2 hR, hy1, hts _ hinst⟩ ⟨gPre.blind _ _ _ _, fun U hU hW => ⟨rfl, by rw [hU], by rw [hU]; exact hPc, gK.warm hW hK, hDc⟩⟩ rfl rfl hl.1 hst (lv_room hcat) hd hf⟩
theorem g_ci (hX : gOK X K nL cc own Ts) {S : Type} {mc ms : Nat} {wc wr : va_W} {post : Int32 → S → Prop} {Wd Wd' : S → va_W} {st : List Value} (hg : gGo X l R K nL k n mc ms ws lv st stk pc (fun sz => va_Qi post (gB K wc sz Wd) (va_A wc sz)) wc) (isC isR ps : List Nat) (hC : isC.map (fun i => ws[i]?) = wc.map some) (hR : isR.map (fun i => ws[i]?) = wr.map some) (hn : va_nd isR = true) (hdis : ∀ i ∈ isR, i ∉ isC) (hnp : va_nd ps = true) (hp : ∀ u, ps.map (fun i => (wr ++ Wd u)[i]?) = (Wd' u).map some) (kk : ∀ (r : Int32) (u : S), post r u → VG X l R K nL (k + mc) (n + ms) (Wd' u) lv (.int r :: stk) (pc + 3)) : VG X l R K nL k n ws lv st pc := by
  obtain ⟨p, e, s, m, args, below, meth, c, A, Q⟩ := X
  obtain ⟨hx, hb, hml, hown, hts0, hK, hA⟩ := hX
  have hts : ∀ w ∈ Ts, w.before args s = true := fun w hw => by
    obtain ⟨a, ha, h⟩ := hts0 w hw
    rw [ha] at h
    exact h
  intro H locs ls hP hD hS hl
  obtain ⟨a, hr⟩ := hg H locs ls hP hD hS hl
  have hFc := va_free (wc := wc) hD hS hA isC hC
  refine va_calli hr hS (fun q _ h => hFc q h) hFc (fun r u t H1 locs ht hvm hw hB hz1 hk1 hS => ?_)
  obtain ⟨hP1, hK1, hD1⟩ := hB
  rw [ht] at hP1
  obtain ⟨hP, hD⟩ := va_join (wr := wr) (w1 := Wd u) hP hD isC isR hC hR hn hdis hk1 hFc hP1 hD1
  exact (g_perm (X := (p, e, s, m, args, below, meth, c, A, Q)) ps hnp (hp u) (kk r u hw)) H1 locs ls hP hD hS hl
theorem g_cl (hX : gOK X K nL cc own Ts) {S : Type} {mc ms : Nat} {wc wr : va_W} {post : Int64 → S → Prop} {Wd Wd' : S → va_W} {st : List Value} (hg : gGo X l R K nL k n mc ms ws lv st stk pc (fun sz => va_Ql post (gB K wc sz Wd) (va_A wc sz)) wc) (isC isR ps : List Nat) (hC : isC.map (fun i => ws[i]?) = wc.map some) (hR : isR.map (fun i => ws[i]?) = wr.map some) (hn : va_nd isR = true) (hdis : ∀ i ∈ isR, i ∉ isC) (hnp : va_nd ps = true) (hp : ∀ u, ps.map (fun i => (wr ++ Wd u)[i]?) = (Wd' u).map some) (kk : ∀ (r : Int64) (u : S), post r u → VG X l R K nL (k + mc) (n + ms) (Wd' u) lv (.long r :: stk) (pc + 3)) : VG X l R K nL k n ws lv st pc := by
  obtain ⟨p, e, s, m, args, below, meth, c, A, Q⟩ := X
  obtain ⟨hx, hb, hml, hown, hts0, hK, hA⟩ := hX
  have hts : ∀ w ∈ Ts, w.before args s = true := fun w hw => by
    obtain ⟨a, ha, h⟩ := hts0 w hw
    rw [ha] at h
    exact h
  intro H locs ls hP hD hS hl
  obtain ⟨a, hr⟩ := hg H locs ls hP hD hS hl
  have hFc := va_free (wc := wc) hD hS hA isC hC
  refine va_calll hr hS (fun q _ h => hFc q h) hFc (fun r u t H1 locs ht hvm hw hB hz1 hk1 hS => ?_)
  obtain ⟨hP1, hK1, hD1⟩ := hB
  rw [ht] at hP1
  obtain ⟨hP, hD⟩ := va_join (wr := wr) (w1 := Wd u) hP hD isC isR hC hR hn hdis hk1 hFc hP1 hD1
  exact (g_perm (X := (p, e, s, m, args, below, meth, c, A, Q)) ps hnp (hp u) (kk r u hw)) H1 locs ls hP hD hS hl
theorem g_cv (hX : gOK X K nL cc own Ts) {S : Type} {mc ms : Nat} {wc wr : va_W} {post : S → Prop} {Wd Wd' : S → va_W} {st : List Value} (hg : gGo X l R K nL k n mc ms ws lv st stk pc (fun sz => va_Qv post (gB K wc sz Wd) (va_A wc sz)) wc) (isC isR ps : List Nat) (hC : isC.map (fun i => ws[i]?) = wc.map some) (hR : isR.map (fun i => ws[i]?) = wr.map some) (hn : va_nd isR = true) (hdis : ∀ i ∈ isR, i ∉ isC) (hnp : va_nd ps = true) (hp : ∀ u, ps.map (fun i => (wr ++ Wd u)[i]?) = (Wd' u).map some) (kk : ∀ (u : S), post u → VG X l R K nL (k + mc) (n + ms) (Wd' u) lv (stk) (pc + 3)) : VG X l R K nL k n ws lv st pc := by
  obtain ⟨p, e, s, m, args, below, meth, c, A, Q⟩ := X
  obtain ⟨hx, hb, hml, hown, hts0, hK, hA⟩ := hX
  have hts : ∀ w ∈ Ts, w.before args s = true := fun w hw => by
    obtain ⟨a, ha, h⟩ := hts0 w hw
    rw [ha] at h
    exact h
  intro H locs ls hP hD hS hl
  obtain ⟨a, hr⟩ := hg H locs ls hP hD hS hl
  have hFc := va_free (wc := wc) hD hS hA isC hC
  refine va_callv hr hS (fun q _ h => hFc q h) hFc (fun u t H1 locs ht hvm hw hB hz1 hk1 hS => ?_)
  obtain ⟨hP1, hK1, hD1⟩ := hB
  rw [ht] at hP1
  obtain ⟨hP, hD⟩ := va_join (wr := wr) (w1 := Wd u) hP hD isC isR hC hR hn hdis hk1 hFc hP1 hD1
  exact (g_perm (X := (p, e, s, m, args, below, meth, c, A, Q)) ps hnp (hp u) (kk u hw)) H1 locs ls hP hD hS hl
theorem g_cq (hX : gOK X K nL cc own Ts) {S : Type} {mc ms : Nat} {wc wr : va_W} {post : Option Nat → S → Prop} {Wd Wd' : S → va_W} {st : List Value} (hg : gGo X l R K nL k n mc ms ws lv st stk pc (fun sz => va_Qq post (gB K wc sz Wd) (va_A wc sz)) wc) (isC isR ps : List Nat) (hC : isC.map (fun i => ws[i]?) = wc.map some) (hR : isR.map (fun i => ws[i]?) = wr.map some) (hn : va_nd isR = true) (hdis : ∀ i ∈ isR, i ∉ isC) (hnp : va_nd ps = true) (hp : ∀ u, ps.map (fun i => (wr ++ Wd u)[i]?) = (Wd' u).map some) (kk : ∀ (r : Option Nat) (u : S), post r u → VG X l R K nL (k + mc) (n + ms) (Wd' u) lv (va_rf r :: stk) (pc + 3)) : VG X l R K nL k n ws lv st pc := by
  obtain ⟨p, e, s, m, args, below, meth, c, A, Q⟩ := X
  obtain ⟨hx, hb, hml, hown, hts0, hK, hA⟩ := hX
  have hts : ∀ w ∈ Ts, w.before args s = true := fun w hw => by
    obtain ⟨a, ha, h⟩ := hts0 w hw
    rw [ha] at h
    exact h
  intro H locs ls hP hD hS hl
  obtain ⟨a, hr⟩ := hg H locs ls hP hD hS hl
  have hFc := va_free (wc := wc) hD hS hA isC hC
  refine va_callq hr hS (fun q _ h => hFc q h) hFc (fun r u t H1 locs ht hvm hw hB hz1 hk1 hS => ?_)
  obtain ⟨hP1, hK1, hD1⟩ := hB
  rw [ht] at hP1
  obtain ⟨hP, hD⟩ := va_join (wr := wr) (w1 := Wd u) hP hD isC isR hC hR hn hdis hk1 hFc hP1 hD1
  exact (g_perm (X := (p, e, s, m, args, below, meth, c, A, Q)) ps hnp (hp u) (kk r u hw)) H1 locs ls hP hD hS hl
theorem m_i {S : Type} {y : MethodName} {wsl wsl' : List Cond} {rm : Room} {As : List Value} {ws0 : va_W} {post : Int32 → S → Prop} {Wd : S → va_W} {mc ms maxL : Nat} (hy : plainName y.cls = true) (hw : wsl = .code y cc maxL (some .int) :: wsl') (hcls : y.cls = own) (hlen : (lg_sl As).length ≤ maxL) {lv0 : List (Nat × Value)} (hlv : lv_args 0 As = lv0) (body : ∀ X : gX, gOK X K maxL cc own wsl → (y.name = "<init>" → gIn X) → (∀ {v : Int32} {u : S} {ws : va_W} {lv : List (Nat × Value)} {pc : Nat}, decode cc pc = .ok (.ireturn, 1) → post v u → ws = Wd u → VG X l rm K maxL mc ms ws lv [.int v] pc) → VG X l rm K maxL 0 0 ws0 lv0 [] 0) : Ci l y wsl rm K As ws0 post Wd mc ms := by
  intro sz
  refine Met.ofW hy hw ?_
  intro p e s m args below meth c s₁ B hml hv
  obtain ⟨rfl, hsz, hP, hK, hD0⟩ := hv
  subst hsz
  have hD := hD0.self (sz := s.heap.size)
  have hl := lv_entry As (n := maxL) hlen
  rw [hlv] at hl
  rw [lg_entry_eq]
  have hts := atoms_spec (ws := wsl) B.pre
  have hown : s.vm.findClass own = some m.cls := by rw [← hcls]; exact findClass_of_methodNamed B.named
  have hr := B.returns
  have hlocks := B.notSynchronized
  refine body (p, e, s, m, As.toArray, below, meth, c, va_A ws0 s.heap.size, _) ⟨B.exec, B.bytes, hml, hown, fun w hw => ⟨_, rfl, hts w hw⟩, hK, fun q h => Or.inr h⟩ (fun h => (name_of_methodNamed B.named B.method).1.trans h) ?_ s.heap [] _ hP hD va_S.rf hl
  intro v u ws lv pc hd hpost hw2 H locs ls hP hD hS hl
  subst hw2
  exact W.iret B.exec B.bytes hr (fun t ht hW => ⟨⟨v, u, rfl, hpost, by rw [ht]; exact hP, gK.warm hW hK, hD⟩, hS.F ht⟩) hS.2.2 hd
theorem m_z {S : Type} {y : MethodName} {wsl wsl' : List Cond} {rm : Room} {As : List Value} {ws0 : va_W} {post : Int32 → S → Prop} {Wd : S → va_W} {mc ms maxL : Nat} (hy : plainName y.cls = true) (hw : wsl = .code y cc maxL (some .boolean) :: wsl') (hcls : y.cls = own) (hlen : (lg_sl As).length ≤ maxL) {lv0 : List (Nat × Value)} (hlv : lv_args 0 As = lv0) (body : ∀ X : gX, gOK X K maxL cc own wsl → (y.name = "<init>" → gIn X) → (∀ {v : Bool} {u : S} {ws : va_W} {lv : List (Nat × Value)} {pc : Nat}, decode cc pc = .ok (.ireturn, 1) → post (bI v) u → ws = Wd u → VG X l rm K maxL mc ms ws lv [.int (bI v)] pc) → VG X l rm K maxL 0 0 ws0 lv0 [] 0) : Ci l y wsl rm K As ws0 post Wd mc ms := by
  intro sz
  refine Met.ofW hy hw ?_
  intro p e s m args below meth c s₁ B hml hv
  obtain ⟨rfl, hsz, hP, hK, hD0⟩ := hv
  subst hsz
  have hD := hD0.self (sz := s.heap.size)
  have hl := lv_entry As (n := maxL) hlen
  rw [hlv] at hl
  rw [lg_entry_eq]
  have hts := atoms_spec (ws := wsl) B.pre
  have hown : s.vm.findClass own = some m.cls := by rw [← hcls]; exact findClass_of_methodNamed B.named
  have hr := B.returns
  have hlocks := B.notSynchronized
  refine body (p, e, s, m, As.toArray, below, meth, c, va_A ws0 s.heap.size, _) ⟨B.exec, B.bytes, hml, hown, fun w hw => ⟨_, rfl, hts w hw⟩, hK, fun q h => Or.inr h⟩ (fun h => (name_of_methodNamed B.named B.method).1.trans h) ?_ s.heap [] _ hP hD va_S.rf hl
  intro v u ws lv pc hd hpost hw2 H locs ls hP hD hS hl
  subst hw2
  exact W.zret (ty := .boolean) B.exec B.bytes hr (by cases v <;> rfl) (fun t ht hW => ⟨⟨bI v, u, rfl, hpost, by rw [ht]; exact hP, gK.warm hW hK, hD⟩, hS.F ht⟩) hS.2.2 hd
theorem m_l {S : Type} {y : MethodName} {wsl wsl' : List Cond} {rm : Room} {As : List Value} {ws0 : va_W} {post : Int64 → S → Prop} {Wd : S → va_W} {mc ms maxL : Nat} (hy : plainName y.cls = true) (hw : wsl = .code y cc maxL (some .long) :: wsl') (hcls : y.cls = own) (hlen : (lg_sl As).length ≤ maxL) {lv0 : List (Nat × Value)} (hlv : lv_args 0 As = lv0) (body : ∀ X : gX, gOK X K maxL cc own wsl → (y.name = "<init>" → gIn X) → (∀ {v : Int64} {u : S} {ws : va_W} {lv : List (Nat × Value)} {pc : Nat}, decode cc pc = .ok (.lreturn, 1) → post v u → ws = Wd u → VG X l rm K maxL mc ms ws lv [.long v] pc) → VG X l rm K maxL 0 0 ws0 lv0 [] 0) : Cl l y wsl rm K As ws0 post Wd mc ms := by
  intro sz
  refine Met.ofW hy hw ?_
  intro p e s m args below meth c s₁ B hml hv
  obtain ⟨rfl, hsz, hP, hK, hD0⟩ := hv
  subst hsz
  have hD := hD0.self (sz := s.heap.size)
  have hl := lv_entry As (n := maxL) hlen
  rw [hlv] at hl
  rw [lg_entry_eq]
  have hts := atoms_spec (ws := wsl) B.pre
  have hown : s.vm.findClass own = some m.cls := by rw [← hcls]; exact findClass_of_methodNamed B.named
  have hr := B.returns
  have hlocks := B.notSynchronized
  refine body (p, e, s, m, As.toArray, below, meth, c, va_A ws0 s.heap.size, _) ⟨B.exec, B.bytes, hml, hown, fun w hw => ⟨_, rfl, hts w hw⟩, hK, fun q h => Or.inr h⟩ (fun h => (name_of_methodNamed B.named B.method).1.trans h) ?_ s.heap [] _ hP hD va_S.rf hl
  intro v u ws lv pc hd hpost hw2 H locs ls hP hD hS hl
  subst hw2
  exact W.lret B.exec B.bytes hr (fun t ht hW => ⟨⟨v, u, rfl, hpost, by rw [ht]; exact hP, gK.warm hW hK, hD⟩, hS.F ht⟩) hS.2.2 hd
theorem m_v {S : Type} {y : MethodName} {wsl wsl' : List Cond} {rm : Room} {As : List Value} {ws0 : va_W} {post : S → Prop} {Wd : S → va_W} {mc ms maxL : Nat} (hy : plainName y.cls = true) (hw : wsl = .code y cc maxL none :: wsl') (hcls : y.cls = own) (hlen : (lg_sl As).length ≤ maxL) {lv0 : List (Nat × Value)} (hlv : lv_args 0 As = lv0) (body : ∀ X : gX, gOK X K maxL cc own wsl → (y.name = "<init>" → gIn X) → (∀ {u : S} {ws : va_W} {lv : List (Nat × Value)} {pc : Nat}, decode cc pc = .ok (.return_, 1) → post u → ws = Wd u → VG X l rm K maxL mc ms ws lv [] pc) → VG X l rm K maxL 0 0 ws0 lv0 [] 0) : Cv l y wsl rm K As ws0 post Wd mc ms := by
  intro sz
  refine Met.ofW hy hw ?_
  intro p e s m args below meth c s₁ B hml hv
  obtain ⟨rfl, hsz, hP, hK, hD0⟩ := hv
  subst hsz
  have hD := hD0.self (sz := s.heap.size)
  have hl := lv_entry As (n := maxL) hlen
  rw [hlv] at hl
  rw [lg_entry_eq]
  have hts := atoms_spec (ws := wsl) B.pre
  have hown : s.vm.findClass own = some m.cls := by rw [← hcls]; exact findClass_of_methodNamed B.named
  have hr := B.returns
  have hlocks := B.notSynchronized
  refine body (p, e, s, m, As.toArray, below, meth, c, va_A ws0 s.heap.size, _) ⟨B.exec, B.bytes, hml, hown, fun w hw => ⟨_, rfl, hts w hw⟩, hK, fun q h => Or.inr h⟩ (fun h => (name_of_methodNamed B.named B.method).1.trans h) ?_ s.heap [] _ hP hD va_S.rf hl
  intro u ws lv pc hd hpost hw2 H locs ls hP hD hS hl
  subst hw2
  exact W.vret B.exec B.bytes hr (fun t ht hW => ⟨⟨u, rfl, hpost, by rw [ht]; exact hP, gK.warm hW hK, hD⟩, hS.F ht⟩) hS.2.2 hd
theorem m_q {S : Type} {y : MethodName} {wsl wsl' : List Cond} {rm : Room} {As : List Value} {ws0 : va_W} {post : Option Nat → S → Prop} {Wd : S → va_W} {mc ms maxL : Nat} {rt : String} (hy : plainName y.cls = true) (hw : wsl = .code y cc maxL (some (.object rt)) :: wsl') (hcls : y.cls = own) (hlen : (lg_sl As).length ≤ maxL) {lv0 : List (Nat × Value)} (hlv : lv_args 0 As = lv0) (body : ∀ X : gX, gOK X K maxL cc own wsl → (y.name = "<init>" → gIn X) → (∀ {v : (Option Nat)} {u : S} {ws : va_W} {lv : List (Nat × Value)} {pc : Nat}, decode cc pc = .ok (.areturn, 1) → post v u → ws = Wd u → VG X l rm K maxL mc ms ws lv [va_rf v] pc) → VG X l rm K maxL 0 0 ws0 lv0 [] 0) : Cq l y wsl rm K As ws0 post Wd mc ms := by
  intro sz
  refine Met.ofW hy hw ?_
  intro p e s m args below meth c s₁ B hml hv
  obtain ⟨rfl, hsz, hP, hK, hD0⟩ := hv
  subst hsz
  have hD := hD0.self (sz := s.heap.size)
  have hl := lv_entry As (n := maxL) hlen
  rw [hlv] at hl
  rw [lg_entry_eq]
  have hts := atoms_spec (ws := wsl) B.pre
  have hown : s.vm.findClass own = some m.cls := by rw [← hcls]; exact findClass_of_methodNamed B.named
  have hr := B.returns
  have hlocks := B.notSynchronized
  refine body (p, e, s, m, As.toArray, below, meth, c, va_A ws0 s.heap.size, _) ⟨B.exec, B.bytes, hml, hown, fun w hw => ⟨_, rfl, hts w hw⟩, hK, fun q h => Or.inr h⟩ (fun h => (name_of_methodNamed B.named B.method).1.trans h) ?_ s.heap [] _ hP hD va_S.rf hl
  intro v u ws lv pc hd hpost hw2 H locs ls hP hD hS hl
  subst hw2
  exact W.aret (rt := .object rt) B.exec B.bytes hr (Or.inl ⟨_, rfl⟩) (va_rf_or v) (fun t ht hW => ⟨⟨v, u, rfl, hpost, by rw [ht]; exact hP, gK.warm hW hK, hD⟩, hS.F ht⟩) hS.2.2 hd
end GR
theorem gz_b (b : Bool) : vp_nar .boolean (bI b) = bI b := by cases b <;> decide
end
section
/-! ROWS, PURE: what a row of pages is (a list), and what the class's arrays say of it -/
/-- the first place of x in a list, the list without it -/
def ix : List Nat → Nat → Nat
  | [], _ => 0
  | a :: t, x => if a = x then 0 else ix t x + 1
def rm : List Nat → Nat → List Nat
  | [], _ => []
  | a :: t, x => if a = x then t else a :: rm t x
def lastD (l : List Nat) : Nat := l.getD (l.length - 1) 0
/-- the first z places of f hold l -/
def rowR (f : Nat → Int32) (l : List Nat) : Prop := l.length ≤ 17 ∧ (∀ p ∈ l, p < 64) ∧ ∀ i, i < l.length → f i = nI (l.getD i 0)
theorem gd_mem {l : List Nat} {i : Nat} (h : i < l.length) : l.getD i 0 ∈ l := by
  rw [List.getD_eq_getElem?_getD, List.getElem?_eq_getElem h]
  exact List.getElem_mem h
theorem gd_cons (a : Nat) (t : List Nat) (i : Nat) : (a :: t).getD i 0 = if i = 0 then a else t.getD (i - 1) 0 := by
  cases i with
  | zero => simp
  | succ i => simp
theorem ix_lt : ∀ {l : List Nat} {x : Nat}, x ∈ l → ix l x < l.length
  | [], x, h => absurd h List.not_mem_nil
  | a :: t, x, h => by
    unfold ix
    by_cases e : a = x
    · rw [if_pos e]; exact Nat.succ_pos _
    · rw [if_neg e]
      have h2 : x ∈ t := by
        rcases List.mem_cons.mp h with q | q
        · exact absurd q.symm e
        · exact q
      have h3 := ix_lt h2
      show ix t x + 1 < t.length + 1
      omega
theorem ix_get : ∀ {l : List Nat} {x : Nat}, x ∈ l → l.getD (ix l x) 0 = x
  | [], x, h => absurd h List.not_mem_nil
  | a :: t, x, h => by
    unfold ix
    by_cases e : a = x
    · rw [if_pos e]; exact e
    · rw [if_neg e]
      have h2 : x ∈ t := by
        rcases List.mem_cons.mp h with q | q
        · exact absurd q.symm e
        · exact q
      have h3 := ix_get h2
      rw [gd_cons, if_neg (by omega)]
      exact h3
theorem ix_min : ∀ {l : List Nat} {x j : Nat}, j < ix l x → l.getD j 0 ≠ x
  | [], x, j, h => by simp [ix] at h
  | a :: t, x, j, h => by
    unfold ix at h
    by_cases e : a = x
    · rw [if_pos e] at h; omega
    · rw [if_neg e] at h
      rw [gd_cons]
      by_cases hj : j = 0
      · rw [if_pos hj]; exact e
      · rw [if_neg hj]; exact ix_min (by omega)
theorem ix_of {l : List Nat} {x i : Nat} (hi : i < l.length) (hx : l.getD i 0 = x) (hj : ∀ j, j < i → l.getD j 0 ≠ x) : x ∈ l ∧ ix l x = i := by
  have hm : x ∈ l := by rw [← hx]; exact gd_mem hi
  refine ⟨hm, ?_⟩
  rcases Nat.lt_trichotomy (ix l x) i with h | h | h
  · exact absurd (ix_get hm) (hj _ h)
  · exact h
  · exact absurd hx (ix_min h)
theorem mem_gd {l : List Nat} {x : Nat} (h : x ∈ l) : ∃ i, i < l.length ∧ l.getD i 0 = x := ⟨ix l x, ix_lt h, ix_get h⟩
theorem nomem_of {l : List Nat} {x : Nat} (h : ∀ j, j < l.length → l.getD j 0 ≠ x) : x ∉ l := fun hm => h _ (ix_lt hm) (ix_get hm)
theorem rm_len : ∀ {l : List Nat} {x : Nat}, x ∈ l → (rm l x).length + 1 = l.length
  | [], x, h => absurd h List.not_mem_nil
  | a :: t, x, h => by
    unfold rm
    by_cases e : a = x
    · rw [if_pos e]; rfl
    · rw [if_neg e]
      have h2 : x ∈ t := by
        rcases List.mem_cons.mp h with q | q
        · exact absurd q.symm e
        · exact q
      have h3 := rm_len h2
      show (rm t x).length + 1 + 1 = t.length + 1
      omega
theorem rm_sub : ∀ {l : List Nat} {x p : Nat}, p ∈ rm l x → p ∈ l
  | [], x, p, h => by simp [rm] at h
  | a :: t, x, p, h => by
    unfold rm at h
    by_cases e : a = x
    · rw [if_pos e] at h; exact List.mem_cons_of_mem _ h
    · rw [if_neg e] at h
      rcases List.mem_cons.mp h with q | q
      · rw [q]; exact List.mem_cons_self
      · exact List.mem_cons_of_mem _ (rm_sub q)
theorem rm_get : ∀ {l : List Nat} {x : Nat}, x ∈ l → ∀ i, (rm l x).getD i 0 = if i < ix l x then l.getD i 0 else l.getD (i + 1) 0
  | [], x, h, i => absurd h List.not_mem_nil
  | a :: t, x, h, i => by
    unfold rm ix
    by_cases e : a = x
    · rw [if_pos e, if_pos e, if_neg (by omega), gd_cons, if_neg (by omega), Nat.add_sub_cancel]
    · rw [if_neg e, if_neg e]
      have h2 : x ∈ t := by
        rcases List.mem_cons.mp h with q | q
        · exact absurd q.symm e
        · exact q
      by_cases hi : i = 0
      · subst hi
        rw [gd_cons, if_pos rfl, if_pos (by omega), gd_cons, if_pos rfl]
      · rw [gd_cons, if_neg hi, rm_get h2 (i - 1)]
        by_cases hl : i - 1 < ix t x
        · rw [if_pos hl, if_pos (by omega), gd_cons, if_neg hi]
        · rw [if_neg hl, if_neg (by omega), gd_cons, if_neg (by omega), show i - 1 + 1 = i + 1 - 1 by omega]
theorem rm_none : ∀ {l : List Nat} {x : Nat}, x ∉ l → rm l x = l
  | [], x, _ => rfl
  | a :: t, x, h => by
    unfold rm
    rw [if_neg (fun e => h (by rw [e]; exact List.mem_cons_self)), rm_none (fun q => h (List.mem_cons_of_mem _ q))]
theorem rm_head (a : Nat) (t : List Nat) : rm (a :: t) a = t := by unfold rm; rw [if_pos rfl]
theorem dl_len (l : List Nat) : l.dropLast.length = l.length - 1 := List.length_dropLast
theorem dl_get (l : List Nat) {i : Nat} (h : i + 1 < l.length) : l.dropLast.getD i 0 = l.getD i 0 := by
  rw [List.getD_eq_getElem?_getD, List.getD_eq_getElem?_getD, List.getElem?_dropLast, if_pos (by omega)]
theorem dl_sub {l : List Nat} {p : Nat} (h : p ∈ l.dropLast) : p ∈ l := by
  obtain ⟨i, hi, e⟩ := mem_gd h
  rw [dl_len] at hi
  rw [← e, dl_get _ (by omega)]
  exact gd_mem (by omega)
theorem last_mem {l : List Nat} (h : 0 < l.length) : lastD l ∈ l := gd_mem (by omega)
theorem ap_get (l : List Nat) (x i : Nat) : (l ++ [x]).getD i 0 = if i < l.length then l.getD i 0 else if i = l.length then x else 0 := by
  rw [List.getD_eq_getElem?_getD, List.getD_eq_getElem?_getD, List.getElem?_append]
  by_cases h : i < l.length
  · rw [if_pos h, if_pos h]
  · rw [if_neg h, if_neg h]
    by_cases h2 : i = l.length
    · rw [if_pos h2, h2, Nat.sub_self]
      rfl
    · rw [if_neg h2, List.getElem?_eq_none (by show 1 ≤ _; omega)]
      rfl
theorem rowR.mem {f : Nat → Int32} {l : List Nat} (h : rowR f l) {i : Nat} (hi : i < l.length) : l.getD i 0 < 64 := h.2.1 _ (gd_mem hi)
theorem rowR.nil (f : Nat → Int32) : rowR f [] := ⟨Nat.zero_le _, fun _ h => absurd h List.not_mem_nil, fun _ h => absurd h (Nat.not_lt_zero _)⟩
theorem rowR.head {f : Nat → Int32} {l : List Nat} (h : rowR f l) {x : Nat} (hx : x < 64) (hl : l.length < 17) : rowR (upd (va_cpy f f 0 1 l.length) 0 (nI x)) (x :: l) := by
  refine ⟨by show l.length + 1 ≤ 17; omega, fun p hp => ?_, fun i hi => ?_⟩
  · rcases List.mem_cons.mp hp with q | q
    · omega
    · exact h.2.1 p q
  · have hi2 : i < l.length + 1 := hi
    rw [gd_cons]
    by_cases hz : i = 0
    · rw [if_pos hz, hz, pk_us]
    · rw [if_neg hz, pk_un hz, pk_cpy_in (by omega) (by omega), Nat.zero_add]
      exact h.2.2 _ (by omega)
theorem rowR.tail {f : Nat → Int32} {l : List Nat} (h : rowR f l) {x : Nat} (hx : x < 64) (hl : l.length < 17) : rowR (upd f l.length (nI x)) (l ++ [x]) := by
  refine ⟨by rw [List.length_append]; show l.length + 1 ≤ 17; omega, fun p hp => ?_, fun i hi => ?_⟩
  · rcases List.mem_append.mp hp with q | q
    · exact h.2.1 p q
    · have := List.mem_singleton.mp q
      omega
  · rw [List.length_append] at hi
    have hi2 : i < l.length + 1 := hi
    rw [ap_get]
    by_cases hz : i = l.length
    · rw [if_neg (by omega), if_pos hz, hz, pk_us]
    · rw [if_pos (by omega), pk_un hz]
      exact h.2.2 _ (by omega)
theorem rowR.drop {f : Nat → Int32} {l : List Nat} (h : rowR f l) : rowR f l.dropLast := by
  refine ⟨by rw [dl_len]; have := h.1; omega, fun p hp => h.2.1 p (dl_sub hp), fun i hi => ?_⟩
  rw [dl_len] at hi
  rw [dl_get _ (by omega)]
  exact h.2.2 _ (by omega)
theorem rowR.rm {f : Nat → Int32} {l : List Nat} (h : rowR f l) {x : Nat} (hx : x ∈ l) : rowR (va_cpy f f (ix l x + 1) (ix l x) (l.length - 1 - ix l x)) (rm l x) := by
  have h1 := rm_len hx
  have h2 := ix_lt hx
  refine ⟨by have := h.1; omega, fun p hp => h.2.1 p (rm_sub hp), fun i hi => ?_⟩
  rw [rm_get hx]
  by_cases hl : i < ix l x
  · rw [if_pos hl, pk_cpy_out (Or.inl hl)]
    exact h.2.2 _ (by omega)
  · rw [if_neg hl, pk_cpy_in (by omega) (by omega), show ix l x + 1 + (i - ix l x) = i + 1 by omega]
    exact h.2.2 _ (by omega)
/-- the answers of PageRow -/
def atI (l : List Nat) (i : Int32) : Int32 := if i < 0 then -1 else if nI l.length ≤ i then -1 else nI (l.getD i.toNatClampNeg 0)
def plI (l : List Nat) (x : Nat) : Int32 := if x ∈ l then nI (ix l x) else -1
theorem plI_in {l : List Nat} {x : Nat} (h : x ∈ l) : plI l x = nI (ix l x) := if_pos h
theorem plI_out {l : List Nat} {x : Nat} (h : x ∉ l) : plI l x = -1 := if_neg h
theorem nI_m1 {n : Nat} (h : n < 2 ^ 31) : nI n ≠ -1 := by
  intro e
  have h1 : (nI n).toInt = (-1 : Int32).toInt := by rw [e]
  rw [nI_toInt h] at h1
  have h2 : (-1 : Int32).toInt = -1 := by decide
  omega
theorem bI_t : bI true = 1 := rfl
theorem bI_f : bI false = 0 := rfl
theorem bI_mem {l : List Nat} {x : Nat} (h : x ∈ l) : bI (decide (x ∈ l)) = 1 := by rw [decide_eq_true h]; rfl
theorem bI_nomem {l : List Nat} {x : Nat} (h : x ∉ l) : bI (decide (x ∈ l)) = 0 := by rw [decide_eq_false h]; rfl
theorem gl_last {l : List Nat} (h : 0 < l.length) : l.getLast? = some (lastD l) := by
  rw [List.getLast?_eq_getElem?]
  unfold lastD
  rw [List.getD_eq_getElem?_getD, List.getElem?_eq_getElem (show l.length - 1 < l.length by omega)]
  rfl
end
section
/-! PAGEROW: its contracts. rW: a row object p, its array q, the pages L, what the array holds f -/
abbrev rW (K : gT) (p q : Nat) (L : List Nat) (f : Nat → Int32) : va_W := [(p, .inr (0, [.ref q, .int (nI L.length)])), (q, .inl (K.2.1, 17, .inl f))]
abbrev rmX0_init : Room := { frames := 1, cells := 1, slots := 17, locals := 40 }
theorem wdX0_init_ml3 : Cond.methodLink RX0 3 objectInit ∈ wsX0_init := by decide +kernel
theorem wdX0_init_oi : Cond.instanceMethod objectInit ∈ wsX0_init := by decide +kernel
theorem wdX0_init_oc : Cond.code objectInit ⟨#[0xb1]⟩ 1 none ∈ wsX0_init := by decide +kernel
theorem wdX0_init_arint : Cond.arrayClass .int ∈ wsX0_init := by decide +kernel
theorem flX0_init_11 : Cond.fieldLink RX0 11 "TwoTierCache$PageRow" "pages" "[I" ∈ wsX0_init := by decide +kernel
theorem inX0_init_X0 : ∀ w ∈ u_ws RX0 TX0 2, w ∈ wsX0_init := by decide +kernel
set_option maxHeartbeats 4000000 in
set_option maxRecDepth 100000 in
/-- PageRow(): an array of 17 places -/
theorem c_X0_init (l : Launch) (K : gT) (p : Nat) : Cv l yX0_init wsX0_init rmX0_init K [.ref p] [(p, .inr (0, [.null, .int 0]))] (fun (u : Nat) => True) (fun u => [(p, .inr (0, [.ref u, .int 0])), (u, .inl (K.2.1, 17, .inl (fun _ => 0)))]) 1 17 := by
  refine m_v (cc := cX0_init) (own := RX0) (maxL := 1) (lv0 := [(0, .ref p)]) (by decide) rfl rfl (Nat.le_of_ble_eq_true rfl) rfl ?_
  intro X hX hin hret
  refine g_aload_n (pc := 0) hX dX0_init_0 rfl 0 rfl ?_
  refine g_objInit (pc := 1) hX wdX0_init_ml3 wdX0_init_oi wdX0_init_oc (Nat.le_of_ble_eq_true rfl) (Nat.le_of_ble_eq_true rfl) dX0_init_1 ?_
  refine g_aload_n (pc := 4) hX dX0_init_4 rfl 0 rfl ?_
  refine g_bipush (pc := 5) (v := (nI 17)) hX dX0_init_5 (by decide) ?_
  refine g_newI (pc := 7) hX wdX0_init_arint (by decide) (by decide) (Nat.le_of_ble_eq_true rfl) (Nat.le_of_ble_eq_true rfl) dX0_init_7 (fun q7 => ?_)
  refine g_putF (pc := 9) (C := RX0) (T := TX0) (N := 2) (ci := 0) (v := .ref q7) (ws' := [(p, .inr (0, [.ref q7, .int 0])), (q7, .inl (K.2.1, 17, .inl (fun _ => 0)))]) hX (hin rfl) inX0_init_X0 tyX0 tyX0_ok nmX0 0 rfl rfl 0 (by decide) flX0_init_11 rfl rfl rfl rfl rfl (Nat.le_of_ble_eq_true rfl) rfl dX0_init_9 ?_
  exact hret (u := q7) dX0_init_12 trivial rfl
abbrev rmX0_clear : Room := { frames := 0, cells := 0, slots := 0, locals := 0 }
theorem flX0_clear_15 : Cond.fieldLink RX0 15 "TwoTierCache$PageRow" "size" "I" ∈ wsX0_clear := by decide +kernel
theorem inX0_clear_X0 : ∀ w ∈ u_ws RX0 TX0 2, w ∈ wsX0_clear := by decide +kernel
set_option maxHeartbeats 4000000 in
set_option maxRecDepth 100000 in
/-- clear -/
theorem c_X0_clear (l : Launch) (K : gT) (p q : Nat) (L : List Nat) (f : Nat → Int32) : Cv l yX0_clear wsX0_clear rmX0_clear K [.ref p] [(p, .inr (0, [.ref q, .int (nI L.length)])), (q, .inl (K.2.1, 17, .inl f))] (fun (u : Unit) => True) (fun u => [(p, .inr (0, [.ref q, .int (nI (([] : List Nat).length))])), (q, .inl (K.2.1, 17, .inl f))]) 0 0 := by
  refine m_v (cc := cX0_clear) (own := RX0) (maxL := 1) (lv0 := [(0, .ref p)]) (by decide) rfl rfl (Nat.le_of_ble_eq_true rfl) rfl ?_
  intro X hX hin hret
  refine g_aload_n (pc := 0) hX dX0_clear_0 rfl 0 rfl ?_
  refine g_iconst (pc := 1) (v := (nI 0)) hX dX0_clear_1 (by decide) ?_
  refine g_put (pc := 2) (C := RX0) (T := TX0) (N := 2) (ci := 0) (v := .int (nI 0)) (ws' := [(p, .inr (0, [.ref q, .int (nI 0)])), (q, .inl (K.2.1, 17, .inl f))]) hX inX0_clear_X0 tyX0 tyX0_ok nmX0 0 rfl rfl 1 (by decide) flX0_clear_15 rfl rfl rfl rfl (Nat.le_of_ble_eq_true rfl) rfl dX0_clear_2 ?_
  exact hret (u := ()) dX0_clear_5 trivial rfl
abbrev rmX0_size : Room := { frames := 0, cells := 0, slots := 0, locals := 0 }
theorem flX0_size_15 : Cond.fieldLink RX0 15 "TwoTierCache$PageRow" "size" "I" ∈ wsX0_size := by decide +kernel
theorem inX0_size_X0 : ∀ w ∈ u_ws RX0 TX0 2, w ∈ wsX0_size := by decide +kernel
set_option maxHeartbeats 4000000 in
set_option maxRecDepth 100000 in
/-- size -/
theorem c_X0_size (l : Launch) (K : gT) (p q : Nat) (L : List Nat) (f : Nat → Int32) : Ci l yX0_size wsX0_size rmX0_size K [.ref p] [(p, .inr (0, [.ref q, .int (nI L.length)])), (q, .inl (K.2.1, 17, .inl f))] (fun (r : Int32) (u : Unit) => r = nI L.length) (fun u => [(p, .inr (0, [.ref q, .int (nI L.length)])), (q, .inl (K.2.1, 17, .inl f))]) 0 0 := by
  refine m_i (cc := cX0_size) (own := RX0) (maxL := 1) (lv0 := [(0, .ref p)]) (by decide) rfl rfl (Nat.le_of_ble_eq_true rfl) rfl ?_
  intro X hX hin hret
  refine g_aload_n (pc := 0) hX dX0_size_0 rfl 0 rfl ?_
  refine g_get (pc := 1) (C := RX0) (T := TX0) (N := 2) (ci := 0) (v := .int (nI L.length)) hX inX0_size_X0 0 rfl rfl 1 (by decide) flX0_size_15 rfl rfl dX0_size_1 ?_
  exact hret (u := ()) dX0_size_4 rfl rfl
theorem nI_nle2 {a b : Nat} (h : a < b) (hb : b < 2 ^ 31) : ¬ nI b ≤ nI a := fun q => absurd ((nI_leI hb (by omega)).mp q) (by omega)
abbrev rmX0_at : Room := { frames := 0, cells := 0, slots := 0, locals := 0 }
theorem flX0_at_15 : Cond.fieldLink RX0 15 "TwoTierCache$PageRow" "size" "I" ∈ wsX0_at := by decide +kernel
theorem inX0_at_X0 : ∀ w ∈ u_ws RX0 TX0 2, w ∈ wsX0_at := by decide +kernel
theorem flX0_at_11 : Cond.fieldLink RX0 11 "TwoTierCache$PageRow" "pages" "[I" ∈ wsX0_at := by decide +kernel
set_option maxHeartbeats 4000000 in
set_option maxRecDepth 100000 in
/-- at -/
theorem c_X0_at (l : Launch) (K : gT) (p q : Nat) (L : List Nat) (f : Nat → Int32) (hR : rowR f L) (i : Int32) : Ci l yX0_at wsX0_at rmX0_at K [.ref p, .int i] [(p, .inr (0, [.ref q, .int (nI L.length)])), (q, .inl (K.2.1, 17, .inl f))] (fun (r : Int32) (u : Unit) => r = atI L i) (fun u => [(p, .inr (0, [.ref q, .int (nI L.length)])), (q, .inl (K.2.1, 17, .inl f))]) 0 0 := by
  refine m_i (cc := cX0_at) (own := RX0) (maxL := 2) (lv0 := [(0, .ref p), (1, .int i)]) (by decide) rfl rfl (Nat.le_of_ble_eq_true rfl) rfl ?_
  intro X hX hin hret
  have hlen := hR.1
  refine g_iload_n (pc := 0) hX dX0_at_0 rfl 1 rfl ?_
  refine g_if_lt (pc := 1) (tgt := 21) hX dX0_at_1 (by decide) (fun c1 => ?_) (fun c1 => ?_)
  · refine g_iconst (pc := 21) (v := (-1)) hX dX0_at_21 (by decide) ?_
    exact hret (u := ()) dX0_at_22 (by unfold atI; rw [if_pos c1]) rfl
  · refine g_iload_n (pc := 4) hX dX0_at_4 rfl 1 rfl ?_
    refine g_aload_n (pc := 5) hX dX0_at_5 rfl 0 rfl ?_
    refine g_get (pc := 6) (C := RX0) (T := TX0) (N := 2) (ci := 0) (v := .int (nI L.length)) hX inX0_at_X0 0 rfl rfl 1 (by decide) flX0_at_15 rfl rfl dX0_at_6 ?_
    refine g_icmp_ge (pc := 9) (tgt := 21) hX dX0_at_9 (by decide) (fun c9 => ?_) (fun c9 => ?_)
    · refine g_iconst (pc := 21) (v := (-1)) hX dX0_at_21 (by decide) ?_
      exact hret (u := ()) dX0_at_22 (by unfold atI; rw [if_neg c1, if_pos c9]) rfl
    · obtain ⟨j, hj, rfl⟩ : ∃ j : Nat, j < L.length ∧ i = nI j := by
        rcases pk_ix i (n := L.length) (by omega) with h | h | h
        · exact absurd h c1
        · exact absurd h c9
        · exact h
      refine g_aload_n (pc := 12) hX dX0_at_12 rfl 0 rfl ?_
      refine g_get (pc := 13) (C := RX0) (T := TX0) (N := 2) (ci := 0) (v := .ref q) hX inX0_at_X0 0 rfl rfl 0 (by decide) flX0_at_11 rfl rfl dX0_at_13 ?_
      refine g_iload_n (pc := 16) hX dX0_at_16 rfl 1 rfl ?_
      refine g_iald (pc := 17) (v := (nI (L.getD j 0))) hX 1 rfl (by omega) (by omega) (hR.2.2 _ (by omega)) dX0_at_17 ?_
      refine g_goto (pc := 18) (tgt := 22) hX dX0_at_18 (by decide) ?_
      exact hret (u := ()) dX0_at_22 (by unfold atI; rw [if_neg (nI_pos (by omega)), if_neg (nI_nle2 hj (by omega)), nI_clamp (by omega)]) rfl
abbrev rmX0_placeOf : Room := { frames := 0, cells := 0, slots := 0, locals := 0 }
theorem flX0_placeOf_15 : Cond.fieldLink RX0 15 "TwoTierCache$PageRow" "size" "I" ∈ wsX0_placeOf := by decide +kernel
theorem inX0_placeOf_X0 : ∀ w ∈ u_ws RX0 TX0 2, w ∈ wsX0_placeOf := by decide +kernel
theorem flX0_placeOf_11 : Cond.fieldLink RX0 11 "TwoTierCache$PageRow" "pages" "[I" ∈ wsX0_placeOf := by decide +kernel
set_option maxHeartbeats 4000000 in
set_option maxRecDepth 100000 in
/-- placeOf -/
theorem c_X0_placeOf (l : Launch) (K : gT) (p q : Nat) (L : List Nat) (f : Nat → Int32) (hR : rowR f L) (x : Nat) (hx : x < 64) : Ci l yX0_placeOf wsX0_placeOf rmX0_placeOf K [.ref p, .int (nI x)] [(p, .inr (0, [.ref q, .int (nI L.length)])), (q, .inl (K.2.1, 17, .inl f))] (fun (r : Int32) (u : Unit) => r = plI L x) (fun u => [(p, .inr (0, [.ref q, .int (nI L.length)])), (q, .inl (K.2.1, 17, .inl f))]) 0 0 := by
  refine m_i (cc := cX0_placeOf) (own := RX0) (maxL := 3) (lv0 := [(0, .ref p), (1, .int (nI x))]) (by decide) rfl rfl (Nat.le_of_ble_eq_true rfl) rfl ?_
  intro X hX hin hret
  have hlen := hR.1
  refine g_iconst (pc := 0) (v := (nI 0)) hX dX0_placeOf_0 (by decide) ?_
  refine g_istore_n (pc := 1) (lv' := [(2, .int (nI 0)), (0, .ref p), (1, .int (nI x))]) hX dX0_placeOf_1 rfl (by decide) rfl ?_
  have loop : ∀ (z i : Nat), L.length - i < z → i ≤ L.length → (∀ j, j < i → L.getD j 0 ≠ x) → VG X l rmX0_placeOf K 3 0 0 [(p, .inr (0, [.ref q, .int (nI L.length)])), (q, .inl (K.2.1, 17, .inl f))] [(2, .int (nI i)), (0, .ref p), (1, .int (nI x))] [] 2 := by
    intro z
    induction z with
    | zero => intro i h1; exact absurd h1 (Nat.not_lt_zero _)
    | succ z ih =>
      intro i h1 h2 h3
      refine g_iload_n (pc := 2) hX dX0_placeOf_2 rfl 0 rfl ?_
      refine g_aload_n (pc := 3) hX dX0_placeOf_3 rfl 1 rfl ?_
      refine g_get (pc := 4) (C := RX0) (T := TX0) (N := 2) (ci := 0) (v := .int (nI L.length)) hX inX0_placeOf_X0 0 rfl rfl 1 (by decide) flX0_placeOf_15 rfl rfl dX0_placeOf_4 ?_
      refine g_icmpN_ge (pc := 7) (tgt := 28) hX (by omega) (by omega) dX0_placeOf_7 (by decide) (fun c7 => ?_) (fun c7 => ?_)
      · refine g_iconst (pc := 28) (v := (-1)) hX dX0_placeOf_28 (by decide) ?_
        exact hret (u := ()) dX0_placeOf_29 (by rw [plI_out (nomem_of (fun j hj => h3 j (by omega)))]) rfl
      · have hg := hR.mem (i := i) c7
        refine g_aload_n (pc := 10) hX dX0_placeOf_10 rfl 1 rfl ?_
        refine g_get (pc := 11) (C := RX0) (T := TX0) (N := 2) (ci := 0) (v := .ref q) hX inX0_placeOf_X0 0 rfl rfl 0 (by decide) flX0_placeOf_11 rfl rfl dX0_placeOf_11 ?_
        refine g_iload_n (pc := 14) hX dX0_placeOf_14 rfl 0 rfl ?_
        refine g_iald (pc := 15) (v := (nI (L.getD i 0))) hX 1 rfl (by omega) (by omega) (hR.2.2 _ (by omega)) dX0_placeOf_15 ?_
        refine g_iload_n (pc := 16) hX dX0_placeOf_16 rfl 2 rfl ?_
        refine g_icmpN_ne (pc := 17) (tgt := 22) hX (by omega) (by omega) dX0_placeOf_17 (by decide) (fun c17 => ?_) (fun c17 => ?_)
        · refine g_iinc (pc := 22) (z := 0) (v := (nI (i + 1))) (lv' := [(2, .int (nI (i + 1))), (0, .ref p), (1, .int (nI x))]) hX dX0_placeOf_22 rfl (by first | exact nI_add _ _ | rfl) (by decide) rfl ?_
          refine g_sub [0, 1, 2] (lv' := [(2, .int (nI (i + 1))), (0, .ref p), (1, .int (nI x))]) rfl ?_
          refine g_goto (pc := 25) (tgt := 2) hX dX0_placeOf_25 (by decide) ?_
          exact ih (i + 1) (by omega) (by omega) (fun j hj => by
            rcases Nat.lt_or_ge j i with q | q
            · exact h3 j q
            · rw [show j = i by omega]; exact c17)
        · refine g_iload_n (pc := 20) hX dX0_placeOf_20 rfl 0 rfl ?_
          obtain ⟨hm, he⟩ := ix_of c7 c17 h3
          exact hret (u := ()) dX0_placeOf_21 (by rw [plI_in hm, he]) rfl
  exact loop _ 0 (Nat.lt_succ_self _) (Nat.zero_le _) (fun j hj => absurd hj (Nat.not_lt_zero _))
abbrev rmX0_has : Room := { frames := 1, cells := 0, slots := 0, locals := 22 }
theorem nX0_placeOfV : yX0_placeOf.cls = RX0 ∧ yX0_placeOf.cls ≠ "java/lang/invoke/MethodHandle" ∧ yX0_placeOf.cls ≠ "java/lang/invoke/VarHandle" ∧ (parseMethodDescriptor yX0_placeOf.desc).map (fun d => d.parameters.length) = some 1 := by decide +kernel
set_option maxHeartbeats 4000000 in
set_option maxRecDepth 100000 in
/-- has -/
theorem c_X0_has (l : Launch) (K : gT) (p q : Nat) (L : List Nat) (f : Nat → Int32) (hR : rowR f L) (x : Nat) (hx : x < 64) : Ci l yX0_has wsX0_has rmX0_has K [.ref p, .int (nI x)] [(p, .inr (0, [.ref q, .int (nI L.length)])), (q, .inl (K.2.1, 17, .inl f))] (fun (r : Int32) (u : Unit) => r = bI (decide (x ∈ L))) (fun u => [(p, .inr (0, [.ref q, .int (nI L.length)])), (q, .inl (K.2.1, 17, .inl f))]) 0 0 := by
  refine m_z (cc := cX0_has) (own := RX0) (maxL := 2) (lv0 := [(0, .ref p), (1, .int (nI x))]) (by decide) rfl rfl (Nat.le_of_ble_eq_true rfl) rfl ?_
  intro X hX hin hret
  have hlen := hR.1
  refine g_aload_n (pc := 0) hX dX0_has_0 rfl 0 rfl ?_
  refine g_iload_n (pc := 1) hX dX0_has_1 rfl 1 rfl ?_
  refine g_ci (pc := 2) hX (wc := [(p, .inr (0, [.ref q, .int (nI L.length)])), (q, .inl (K.2.1, 17, .inl f))]) (wr := []) (Wd' := fun u => [(p, .inr (0, [.ref q, .int (nI L.length)])), (q, .inl (K.2.1, 17, .inl f))]) (g_goV (pc := 2) hX (As := [.int (nI x)]) (stk := []) (wc := [(p, .inr (0, [.ref q, .int (nI L.length)])), (q, .inl (K.2.1, 17, .inl f))]) (c_X0_placeOf l K p q L f hR x (by omega)) rfl rfl rfl gX0_has_X0_placeOf nX0_placeOfV rfl 0 rfl ⟨(Nat.le_of_ble_eq_true rfl), (Nat.le_of_ble_eq_true rfl)⟩ [0, 1] rfl rfl rfl (Nat.le_of_ble_eq_true rfl) dX0_has_2 ⟨(Nat.le_of_ble_eq_true rfl), (Nat.le_of_ble_eq_true rfl)⟩) [0, 1] [] [0, 1] rfl rfl rfl (by decide) rfl (fun _ => rfl) (fun r u h2 => ?_)
  obtain rfl := h2
  by_cases hm : x ∈ L
  · refine g_top (y := (nI (ix L x))) (plI_in hm) ?_
    have hix := ix_lt hm
    refine g_iconst (pc := 5) (v := (-1)) hX dX0_has_5 (by decide) ?_
    refine g_icmp_eq (pc := 6) (tgt := 13) hX dX0_has_6 (by decide) (fun c6 => absurd c6 (nI_m1 (by omega))) (fun c6 => ?_)
    refine g_iconst (pc := 9) (v := (nI 1)) hX dX0_has_9 (by decide) ?_
    refine g_goto (pc := 10) (tgt := 14) hX dX0_has_10 (by decide) ?_
    refine g_top (y := bI true) (by decide) ?_
    exact hret (v := true) (u := ()) dX0_has_14 (by rw [bI_mem hm]; rfl) rfl
  · refine g_top (y := (-1)) (plI_out hm) ?_
    refine g_iconst (pc := 5) (v := (-1)) hX dX0_has_5 (by decide) ?_
    refine g_icmp_eq (pc := 6) (tgt := 13) hX dX0_has_6 (by decide) (fun c6 => ?_) (fun c6 => ?_)
    · refine g_iconst (pc := 13) (v := (nI 0)) hX dX0_has_13 (by decide) ?_
      refine g_top (y := bI false) (by decide) ?_
      exact hret (v := false) (u := ()) dX0_has_14 (by rw [bI_nomem hm]; rfl) rfl
    · refine g_iconst (pc := 9) (v := (nI 1)) hX dX0_has_9 (by decide) ?_
      refine g_goto (pc := 10) (tgt := 14) hX dX0_has_10 (by decide) ?_
      exact absurd rfl c6
abbrev rmX0_addHead : Room := { frames := 1, cells := 0, slots := 0, locals := 40 }
theorem flX0_addHead_15 : Cond.fieldLink RX0 15 "TwoTierCache$PageRow" "size" "I" ∈ wsX0_addHead := by decide +kernel
theorem inX0_addHead_X0 : ∀ w ∈ u_ws RX0 TX0 2, w ∈ wsX0_addHead := by decide +kernel
theorem flX0_addHead_11 : Cond.fieldLink RX0 11 "TwoTierCache$PageRow" "pages" "[I" ∈ wsX0_addHead := by decide +kernel
theorem wdX0_addHead_ml23 : Cond.methodLink RX0 23 arraycopyName ∈ wsX0_addHead := by decide +kernel
theorem wdX0_addHead_an : Cond.native arraycopyName ∈ wsX0_addHead := by decide +kernel
theorem wdX0_addHead_as : Cond.static arraycopyName ∈ wsX0_addHead := by decide +kernel
theorem wdX0_addHead_ai : Cond.initialized "java/lang/System" ∈ wsX0_addHead := by decide +kernel
set_option maxHeartbeats 4000000 in
set_option maxRecDepth 100000 in
/-- addHead -/
theorem c_X0_addHead (l : Launch) (K : gT) (p q : Nat) (L : List Nat) (f : Nat → Int32) (hR : rowR f L) (x : Nat) (hx : x < 64) (hl : L.length < 17) : Cv l yX0_addHead wsX0_addHead rmX0_addHead K [.ref p, .int (nI x)] [(p, .inr (0, [.ref q, .int (nI L.length)])), (q, .inl (K.2.1, 17, .inl f))] (fun (u : Nat → Int32) => rowR u (x :: L)) (fun u => [(p, .inr (0, [.ref q, .int (nI ((x :: L).length))])), (q, .inl (K.2.1, 17, .inl u))]) 0 0 := by
  refine m_v (cc := cX0_addHead) (own := RX0) (maxL := 2) (lv0 := [(0, .ref p), (1, .int (nI x))]) (by decide) rfl rfl (Nat.le_of_ble_eq_true rfl) rfl ?_
  intro X hX hin hret
  have hlen := hR.1
  refine g_iload_n (pc := 0) hX dX0_addHead_0 rfl 1 rfl ?_
  refine g_iconst (pc := 1) (v := (-1)) hX dX0_addHead_1 (by decide) ?_
  refine g_icmp_eq (pc := 2) (tgt := 14) hX dX0_addHead_2 (by decide) (fun c2 => absurd c2 (nI_m1 (by omega))) (fun c2 => ?_)
  refine g_aload_n (pc := 5) hX dX0_addHead_5 rfl 0 rfl ?_
  refine g_get (pc := 6) (C := RX0) (T := TX0) (N := 2) (ci := 0) (v := .int (nI L.length)) hX inX0_addHead_X0 0 rfl rfl 1 (by decide) flX0_addHead_15 rfl rfl dX0_addHead_6 ?_
  refine g_bipush (pc := 9) (v := (nI 17)) hX dX0_addHead_9 (by decide) ?_
  refine g_icmpN_ne (pc := 11) (tgt := 15) hX (by omega) (by omega) dX0_addHead_11 (by decide) (fun c11 => ?_) (fun c11 => absurd c11 (by omega))
  refine g_aload_n (pc := 15) hX dX0_addHead_15 rfl 0 rfl ?_
  refine g_get (pc := 16) (C := RX0) (T := TX0) (N := 2) (ci := 0) (v := .ref q) hX inX0_addHead_X0 0 rfl rfl 0 (by decide) flX0_addHead_11 rfl rfl dX0_addHead_16 ?_
  refine g_iconst (pc := 19) (v := (nI 0)) hX dX0_addHead_19 (by decide) ?_
  refine g_aload_n (pc := 20) hX dX0_addHead_20 rfl 0 rfl ?_
  refine g_get (pc := 21) (C := RX0) (T := TX0) (N := 2) (ci := 0) (v := .ref q) hX inX0_addHead_X0 0 rfl rfl 0 (by decide) flX0_addHead_11 rfl rfl dX0_addHead_21 ?_
  refine g_iconst (pc := 24) (v := (nI 1)) hX dX0_addHead_24 (by decide) ?_
  refine g_aload_n (pc := 25) hX dX0_addHead_25 rfl 0 rfl ?_
  refine g_get (pc := 26) (C := RX0) (T := TX0) (N := 2) (ci := 0) (v := .int (nI L.length)) hX inX0_addHead_X0 0 rfl rfl 1 (by decide) flX0_addHead_15 rfl rfl dX0_addHead_26 ?_
  refine g_copy (pc := 29) (ws' := [(p, .inr (0, [.ref q, .int (nI L.length)])), (q, .inl (K.2.1, 17, .inl (va_cpy f f 0 1 L.length)))]) hX wdX0_addHead_ml23 wdX0_addHead_an wdX0_addHead_as wdX0_addHead_ai 1 1 rfl rfl (by omega) (by omega) (by omega) (by omega) (Nat.le_of_ble_eq_true rfl) (Nat.le_of_ble_eq_true rfl) rfl dX0_addHead_29 ?_
  refine g_aload_n (pc := 32) hX dX0_addHead_32 rfl 0 rfl ?_
  refine g_get (pc := 33) (C := RX0) (T := TX0) (N := 2) (ci := 0) (v := .ref q) hX inX0_addHead_X0 0 rfl rfl 0 (by decide) flX0_addHead_11 rfl rfl dX0_addHead_33 ?_
  refine g_iconst (pc := 36) (v := (nI 0)) hX dX0_addHead_36 (by decide) ?_
  refine g_iload_n (pc := 37) hX dX0_addHead_37 rfl 1 rfl ?_
  refine g_iast (pc := 38) (ws' := [(p, .inr (0, [.ref q, .int (nI L.length)])), (q, .inl (K.2.1, 17, .inl (upd (va_cpy f f 0 1 L.length) 0 (nI x))))]) hX 1 rfl (by omega) (by omega) rfl dX0_addHead_38 ?_
  refine g_aload_n (pc := 39) hX dX0_addHead_39 rfl 0 rfl ?_
  refine g_dup (pc := 40) hX dX0_addHead_40 rfl ?_
  refine g_get (pc := 41) (C := RX0) (T := TX0) (N := 2) (ci := 0) (v := .int (nI L.length)) hX inX0_addHead_X0 0 rfl rfl 1 (by decide) flX0_addHead_15 rfl rfl dX0_addHead_41 ?_
  refine g_iconst (pc := 44) (v := (nI 1)) hX dX0_addHead_44 (by decide) ?_
  refine g_iaddN (pc := 45) (r := L.length + 1) hX dX0_addHead_45 (by first | rfl | omega) ?_
  refine g_put (pc := 46) (C := RX0) (T := TX0) (N := 2) (ci := 0) (v := .int (nI (L.length + 1))) (ws' := [(p, .inr (0, [.ref q, .int (nI (L.length + 1))])), (q, .inl (K.2.1, 17, .inl (upd (va_cpy f f 0 1 L.length) 0 (nI x))))]) hX inX0_addHead_X0 tyX0 tyX0_ok nmX0 0 rfl rfl 1 (by decide) flX0_addHead_15 rfl rfl rfl rfl (Nat.le_of_ble_eq_true rfl) rfl dX0_addHead_46 ?_
  exact hret (u := upd (va_cpy f f 0 1 L.length) 0 (nI x)) dX0_addHead_49 (hR.head hx hl) rfl
abbrev rmX0_addTail : Room := { frames := 0, cells := 0, slots := 0, locals := 0 }
theorem flX0_addTail_15 : Cond.fieldLink RX0 15 "TwoTierCache$PageRow" "size" "I" ∈ wsX0_addTail := by decide +kernel
theorem inX0_addTail_X0 : ∀ w ∈ u_ws RX0 TX0 2, w ∈ wsX0_addTail := by decide +kernel
theorem flX0_addTail_11 : Cond.fieldLink RX0 11 "TwoTierCache$PageRow" "pages" "[I" ∈ wsX0_addTail := by decide +kernel
set_option maxHeartbeats 4000000 in
set_option maxRecDepth 100000 in
/-- addTail -/
theorem c_X0_addTail (l : Launch) (K : gT) (p q : Nat) (L : List Nat) (f : Nat → Int32) (hR : rowR f L) (x : Nat) (hx : x < 64) (hl : L.length < 17) : Cv l yX0_addTail wsX0_addTail rmX0_addTail K [.ref p, .int (nI x)] [(p, .inr (0, [.ref q, .int (nI L.length)])), (q, .inl (K.2.1, 17, .inl f))] (fun (u : Nat → Int32) => rowR u (L ++ [x])) (fun u => [(p, .inr (0, [.ref q, .int (nI ((L ++ [x]).length))])), (q, .inl (K.2.1, 17, .inl u))]) 0 0 := by
  refine m_v (cc := cX0_addTail) (own := RX0) (maxL := 2) (lv0 := [(0, .ref p), (1, .int (nI x))]) (by decide) rfl rfl (Nat.le_of_ble_eq_true rfl) rfl ?_
  intro X hX hin hret
  have hlen := hR.1
  refine g_iload_n (pc := 0) hX dX0_addTail_0 rfl 1 rfl ?_
  refine g_iconst (pc := 1) (v := (-1)) hX dX0_addTail_1 (by decide) ?_
  refine g_icmp_eq (pc := 2) (tgt := 14) hX dX0_addTail_2 (by decide) (fun c2 => absurd c2 (nI_m1 (by omega))) (fun c2 => ?_)
  refine g_aload_n (pc := 5) hX dX0_addTail_5 rfl 0 rfl ?_
  refine g_get (pc := 6) (C := RX0) (T := TX0) (N := 2) (ci := 0) (v := .int (nI L.length)) hX inX0_addTail_X0 0 rfl rfl 1 (by decide) flX0_addTail_15 rfl rfl dX0_addTail_6 ?_
  refine g_bipush (pc := 9) (v := (nI 17)) hX dX0_addTail_9 (by decide) ?_
  refine g_icmpN_ne (pc := 11) (tgt := 15) hX (by omega) (by omega) dX0_addTail_11 (by decide) (fun c11 => ?_) (fun c11 => absurd c11 (by omega))
  refine g_aload_n (pc := 15) hX dX0_addTail_15 rfl 0 rfl ?_
  refine g_get (pc := 16) (C := RX0) (T := TX0) (N := 2) (ci := 0) (v := .ref q) hX inX0_addTail_X0 0 rfl rfl 0 (by decide) flX0_addTail_11 rfl rfl dX0_addTail_16 ?_
  refine g_aload_n (pc := 19) hX dX0_addTail_19 rfl 0 rfl ?_
  refine g_get (pc := 20) (C := RX0) (T := TX0) (N := 2) (ci := 0) (v := .int (nI L.length)) hX inX0_addTail_X0 0 rfl rfl 1 (by decide) flX0_addTail_15 rfl rfl dX0_addTail_20 ?_
  refine g_iload_n (pc := 23) hX dX0_addTail_23 rfl 1 rfl ?_
  refine g_iast (pc := 24) (ws' := [(p, .inr (0, [.ref q, .int (nI L.length)])), (q, .inl (K.2.1, 17, .inl (upd f L.length (nI x))))]) hX 1 rfl (by omega) (by omega) rfl dX0_addTail_24 ?_
  refine g_aload_n (pc := 25) hX dX0_addTail_25 rfl 0 rfl ?_
  refine g_dup (pc := 26) hX dX0_addTail_26 rfl ?_
  refine g_get (pc := 27) (C := RX0) (T := TX0) (N := 2) (ci := 0) (v := .int (nI L.length)) hX inX0_addTail_X0 0 rfl rfl 1 (by decide) flX0_addTail_15 rfl rfl dX0_addTail_27 ?_
  refine g_iconst (pc := 30) (v := (nI 1)) hX dX0_addTail_30 (by decide) ?_
  refine g_iaddN (pc := 31) (r := L.length + 1) hX dX0_addTail_31 (by first | rfl | omega) ?_
  refine g_put (pc := 32) (C := RX0) (T := TX0) (N := 2) (ci := 0) (v := .int (nI (L.length + 1))) (ws' := [(p, .inr (0, [.ref q, .int (nI (L.length + 1))])), (q, .inl (K.2.1, 17, .inl (upd f L.length (nI x))))]) hX inX0_addTail_X0 tyX0 tyX0_ok nmX0 0 rfl rfl 1 (by decide) flX0_addTail_15 rfl rfl rfl rfl (Nat.le_of_ble_eq_true rfl) rfl dX0_addTail_32 ?_
  refine g_ws (ws' := [(p, .inr (0, [.ref q, .int (nI ((L ++ [x]).length))])), (q, .inl (K.2.1, 17, .inl (upd f L.length (nI x))))]) (by rw [List.length_append]; rfl) ?_
  exact hret (u := upd f L.length (nI x)) dX0_addTail_35 (hR.tail hx hl) rfl
abbrev rmX0_takeTail : Room := { frames := 0, cells := 0, slots := 0, locals := 0 }
theorem flX0_takeTail_15 : Cond.fieldLink RX0 15 "TwoTierCache$PageRow" "size" "I" ∈ wsX0_takeTail := by decide +kernel
theorem inX0_takeTail_X0 : ∀ w ∈ u_ws RX0 TX0 2, w ∈ wsX0_takeTail := by decide +kernel
theorem flX0_takeTail_11 : Cond.fieldLink RX0 11 "TwoTierCache$PageRow" "pages" "[I" ∈ wsX0_takeTail := by decide +kernel
set_option maxHeartbeats 4000000 in
set_option maxRecDepth 100000 in
/-- takeTail -/
theorem c_X0_takeTail (l : Launch) (K : gT) (p q : Nat) (L : List Nat) (f : Nat → Int32) (hR : rowR f L) : Ci l yX0_takeTail wsX0_takeTail rmX0_takeTail K [.ref p] [(p, .inr (0, [.ref q, .int (nI L.length)])), (q, .inl (K.2.1, 17, .inl f))] (fun (r : Int32) (u : Unit) => r = pI L.getLast?) (fun u => [(p, .inr (0, [.ref q, .int (nI L.dropLast.length)])), (q, .inl (K.2.1, 17, .inl f))]) 0 0 := by
  refine m_i (cc := cX0_takeTail) (own := RX0) (maxL := 1) (lv0 := [(0, .ref p)]) (by decide) rfl rfl (Nat.le_of_ble_eq_true rfl) rfl ?_
  intro X hX hin hret
  have hlen := hR.1
  refine g_aload_n (pc := 0) hX dX0_takeTail_0 rfl 0 rfl ?_
  refine g_get (pc := 1) (C := RX0) (T := TX0) (N := 2) (ci := 0) (v := .int (nI L.length)) hX inX0_takeTail_X0 0 rfl rfl 1 (by decide) flX0_takeTail_15 rfl rfl dX0_takeTail_1 ?_
  refine g_ifN_ne (pc := 4) (tgt := 9) hX (by omega) dX0_takeTail_4 (by decide) (fun c4 => ?_) (fun c4 => ?_)
  · refine g_aload_n (pc := 9) hX dX0_takeTail_9 rfl 0 rfl ?_
    refine g_dup (pc := 10) hX dX0_takeTail_10 rfl ?_
    refine g_get (pc := 11) (C := RX0) (T := TX0) (N := 2) (ci := 0) (v := .int (nI L.length)) hX inX0_takeTail_X0 0 rfl rfl 1 (by decide) flX0_takeTail_15 rfl rfl dX0_takeTail_11 ?_
    refine g_iconst (pc := 14) (v := (nI 1)) hX dX0_takeTail_14 (by decide) ?_
    refine g_isubN (pc := 15) (r := L.length - 1) hX dX0_takeTail_15 (by omega) ?_
    refine g_put (pc := 16) (C := RX0) (T := TX0) (N := 2) (ci := 0) (v := .int (nI (L.length - 1))) (ws' := [(p, .inr (0, [.ref q, .int (nI (L.length - 1))])), (q, .inl (K.2.1, 17, .inl f))]) hX inX0_takeTail_X0 tyX0 tyX0_ok nmX0 0 rfl rfl 1 (by decide) flX0_takeTail_15 rfl rfl rfl rfl (Nat.le_of_ble_eq_true rfl) rfl dX0_takeTail_16 ?_
    refine g_aload_n (pc := 19) hX dX0_takeTail_19 rfl 0 rfl ?_
    refine g_get (pc := 20) (C := RX0) (T := TX0) (N := 2) (ci := 0) (v := .ref q) hX inX0_takeTail_X0 0 rfl rfl 0 (by decide) flX0_takeTail_11 rfl rfl dX0_takeTail_20 ?_
    refine g_aload_n (pc := 23) hX dX0_takeTail_23 rfl 0 rfl ?_
    refine g_get (pc := 24) (C := RX0) (T := TX0) (N := 2) (ci := 0) (v := .int (nI (L.length - 1))) hX inX0_takeTail_X0 0 rfl rfl 1 (by decide) flX0_takeTail_15 rfl rfl dX0_takeTail_24 ?_
    refine g_iald (pc := 27) (v := (nI (L.getD (L.length - 1) 0))) hX 1 rfl (by omega) (by omega) (hR.2.2 _ (by omega)) dX0_takeTail_27 ?_
    refine g_ws (ws' := [(p, .inr (0, [.ref q, .int (nI L.dropLast.length)])), (q, .inl (K.2.1, 17, .inl f))]) (by rw [dl_len]) ?_
    exact hret (u := ()) dX0_takeTail_28 (by rw [gl_last (by omega)]; rfl) rfl
  · refine g_iconst (pc := 7) (v := (-1)) hX dX0_takeTail_7 (by decide) ?_
    have e0 : L = [] := List.length_eq_zero_iff.mp c4
    refine g_ws (ws' := [(p, .inr (0, [.ref q, .int (nI L.dropLast.length)])), (q, .inl (K.2.1, 17, .inl f))]) (by rw [e0]; rfl) ?_
    exact hret (u := ()) dX0_takeTail_8 (by rw [e0]; rfl) rfl
abbrev rmX0_remove : Room := { frames := 1, cells := 0, slots := 0, locals := 40 }
theorem flX0_remove_15 : Cond.fieldLink RX0 15 "TwoTierCache$PageRow" "size" "I" ∈ wsX0_remove := by decide +kernel
theorem inX0_remove_X0 : ∀ w ∈ u_ws RX0 TX0 2, w ∈ wsX0_remove := by decide +kernel
theorem flX0_remove_11 : Cond.fieldLink RX0 11 "TwoTierCache$PageRow" "pages" "[I" ∈ wsX0_remove := by decide +kernel
theorem wdX0_remove_ml23 : Cond.methodLink RX0 23 arraycopyName ∈ wsX0_remove := by decide +kernel
theorem wdX0_remove_an : Cond.native arraycopyName ∈ wsX0_remove := by decide +kernel
theorem wdX0_remove_as : Cond.static arraycopyName ∈ wsX0_remove := by decide +kernel
theorem wdX0_remove_ai : Cond.initialized "java/lang/System" ∈ wsX0_remove := by decide +kernel
set_option maxHeartbeats 4000000 in
set_option maxRecDepth 100000 in
/-- remove -/
theorem c_X0_remove (l : Launch) (K : gT) (p q : Nat) (L : List Nat) (f : Nat → Int32) (hR : rowR f L) (x : Nat) (hx : x < 64) : Ci l yX0_remove wsX0_remove rmX0_remove K [.ref p, .int (nI x)] [(p, .inr (0, [.ref q, .int (nI L.length)])), (q, .inl (K.2.1, 17, .inl f))] (fun (r : Int32) (u : Nat → Int32) => r = bI (decide (x ∈ L)) ∧ rowR u (rm L x)) (fun u => [(p, .inr (0, [.ref q, .int (nI ((rm L x).length))])), (q, .inl (K.2.1, 17, .inl u))]) 0 0 := by
  refine m_z (cc := cX0_remove) (own := RX0) (maxL := 3) (lv0 := [(0, .ref p), (1, .int (nI x))]) (by decide) rfl rfl (Nat.le_of_ble_eq_true rfl) rfl ?_
  intro X hX hin hret
  have hlen := hR.1
  refine g_aload_n (pc := 0) hX dX0_remove_0 rfl 0 rfl ?_
  refine g_iload_n (pc := 1) hX dX0_remove_1 rfl 1 rfl ?_
  refine g_ci (pc := 2) hX (wc := [(p, .inr (0, [.ref q, .int (nI L.length)])), (q, .inl (K.2.1, 17, .inl f))]) (wr := []) (Wd' := fun u => [(p, .inr (0, [.ref q, .int (nI L.length)])), (q, .inl (K.2.1, 17, .inl f))]) (g_goV (pc := 2) hX (As := [.int (nI x)]) (stk := []) (wc := [(p, .inr (0, [.ref q, .int (nI L.length)])), (q, .inl (K.2.1, 17, .inl f))]) (c_X0_placeOf l K p q L f hR x (by omega)) rfl rfl rfl gX0_remove_X0_placeOf nX0_placeOfV rfl 0 rfl ⟨(Nat.le_of_ble_eq_true rfl), (Nat.le_of_ble_eq_true rfl)⟩ [0, 1] rfl rfl rfl (Nat.le_of_ble_eq_true rfl) dX0_remove_2 ⟨(Nat.le_of_ble_eq_true rfl), (Nat.le_of_ble_eq_true rfl)⟩) [0, 1] [] [0, 1] rfl rfl rfl (by decide) rfl (fun _ => rfl) (fun r u h2 => ?_)
  obtain rfl := h2
  by_cases hm : x ∈ L
  · refine g_top (y := (nI (ix L x))) (plI_in hm) ?_
    have hix := ix_lt hm
    refine g_istore_n (pc := 5) (lv' := [(2, .int (nI (ix L x))), (0, .ref p), (1, .int (nI x))]) hX dX0_remove_5 rfl (by decide) rfl ?_
    refine g_iload_n (pc := 6) hX dX0_remove_6 rfl 0 rfl ?_
    refine g_iconst (pc := 7) (v := (-1)) hX dX0_remove_7 (by decide) ?_
    refine g_icmp_ne (pc := 8) (tgt := 13) hX dX0_remove_8 (by decide) (fun c8 => ?_) (fun c8 => absurd c8 (fun h => nI_m1 (by omega) h))
    refine g_aload_n (pc := 13) hX dX0_remove_13 rfl 1 rfl ?_
    refine g_dup (pc := 14) hX dX0_remove_14 rfl ?_
    refine g_get (pc := 15) (C := RX0) (T := TX0) (N := 2) (ci := 0) (v := .int (nI L.length)) hX inX0_remove_X0 0 rfl rfl 1 (by decide) flX0_remove_15 rfl rfl dX0_remove_15 ?_
    refine g_iconst (pc := 18) (v := (nI 1)) hX dX0_remove_18 (by decide) ?_
    refine g_isubN (pc := 19) (r := L.length - 1) hX dX0_remove_19 (by omega) ?_
    refine g_put (pc := 20) (C := RX0) (T := TX0) (N := 2) (ci := 0) (v := .int (nI (L.length - 1))) (ws' := [(p, .inr (0, [.ref q, .int (nI (L.length - 1))])), (q, .inl (K.2.1, 17, .inl f))]) hX inX0_remove_X0 tyX0 tyX0_ok nmX0 0 rfl rfl 1 (by decide) flX0_remove_15 rfl rfl rfl rfl (Nat.le_of_ble_eq_true rfl) rfl dX0_remove_20 ?_
    refine g_aload_n (pc := 23) hX dX0_remove_23 rfl 1 rfl ?_
    refine g_get (pc := 24) (C := RX0) (T := TX0) (N := 2) (ci := 0) (v := .ref q) hX inX0_remove_X0 0 rfl rfl 0 (by decide) flX0_remove_11 rfl rfl dX0_remove_24 ?_
    refine g_iload_n (pc := 27) hX dX0_remove_27 rfl 0 rfl ?_
    refine g_iconst (pc := 28) (v := (nI 1)) hX dX0_remove_28 (by decide) ?_
    refine g_iaddN (pc := 29) (r := (ix L x) + 1) hX dX0_remove_29 (by first | rfl | omega) ?_
    refine g_aload_n (pc := 30) hX dX0_remove_30 rfl 1 rfl ?_
    refine g_get (pc := 31) (C := RX0) (T := TX0) (N := 2) (ci := 0) (v := .ref q) hX inX0_remove_X0 0 rfl rfl 0 (by decide) flX0_remove_11 rfl rfl dX0_remove_31 ?_
    refine g_iload_n (pc := 34) hX dX0_remove_34 rfl 0 rfl ?_
    refine g_aload_n (pc := 35) hX dX0_remove_35 rfl 1 rfl ?_
    refine g_get (pc := 36) (C := RX0) (T := TX0) (N := 2) (ci := 0) (v := .int (nI (L.length - 1))) hX inX0_remove_X0 0 rfl rfl 1 (by decide) flX0_remove_15 rfl rfl dX0_remove_36 ?_
    refine g_iload_n (pc := 39) hX dX0_remove_39 rfl 0 rfl ?_
    refine g_isubN (pc := 40) (r := (L.length - 1) - (ix L x)) hX dX0_remove_40 (by omega) ?_
    refine g_copy (pc := 41) (ws' := [(p, .inr (0, [.ref q, .int (nI (L.length - 1))])), (q, .inl (K.2.1, 17, .inl (va_cpy f f ((ix L x) + 1) (ix L x) ((L.length - 1) - (ix L x)))))]) hX wdX0_remove_ml23 wdX0_remove_an wdX0_remove_as wdX0_remove_ai 1 1 rfl rfl (by omega) (by omega) (by omega) (by omega) (Nat.le_of_ble_eq_true rfl) (Nat.le_of_ble_eq_true rfl) rfl dX0_remove_41 ?_
    refine g_iconst (pc := 44) (v := (nI 1)) hX dX0_remove_44 (by decide) ?_
    have hrl := rm_len hm
    refine g_ws (ws' := [(p, .inr (0, [.ref q, .int (nI ((rm L x).length))])), (q, .inl (K.2.1, 17, .inl (va_cpy f f ((ix L x) + 1) (ix L x) ((L.length - 1) - (ix L x)))))]) (by rw [show L.length - 1 = (rm L x).length by omega]) ?_
    refine g_top (y := bI true) (by decide) ?_
    exact hret (v := true) (u := va_cpy f f (ix L x + 1) (ix L x) (L.length - 1 - ix L x)) dX0_remove_45 (⟨by rw [bI_mem hm]; rfl, hR.rm hm⟩) rfl
  · refine g_top (y := (-1)) (plI_out hm) ?_
    refine g_istore_n (pc := 5) (lv' := [(2, .int (-1)), (0, .ref p), (1, .int (nI x))]) hX dX0_remove_5 rfl (by decide) rfl ?_
    refine g_iload_n (pc := 6) hX dX0_remove_6 rfl 0 rfl ?_
    refine g_iconst (pc := 7) (v := (-1)) hX dX0_remove_7 (by decide) ?_
    refine g_icmp_ne (pc := 8) (tgt := 13) hX dX0_remove_8 (by decide) (fun c8 => ?_) (fun c8 => ?_)
    · exact absurd rfl c8
    · refine g_iconst (pc := 11) (v := (nI 0)) hX dX0_remove_11 (by decide) ?_
      refine g_ws (ws' := [(p, .inr (0, [.ref q, .int (nI ((rm L x).length))])), (q, .inl (K.2.1, 17, .inl f))]) (by rw [rm_none hm]) ?_
      refine g_top (y := bI false) (by decide) ?_
      exact hret (v := false) (u := f) dX0_remove_12 (⟨by rw [bI_nomem hm]; rfl, by rw [rm_none hm]; exact hR⟩) rfl
abbrev rmX0_takeHead : Room := { frames := 2, cells := 0, slots := 0, locals := 62 }
theorem nX0_atV : yX0_at.cls = RX0 ∧ yX0_at.cls ≠ "java/lang/invoke/MethodHandle" ∧ yX0_at.cls ≠ "java/lang/invoke/VarHandle" ∧ (parseMethodDescriptor yX0_at.desc).map (fun d => d.parameters.length) = some 1 := by decide +kernel
theorem nX0_removeV : yX0_remove.cls = RX0 ∧ yX0_remove.cls ≠ "java/lang/invoke/MethodHandle" ∧ yX0_remove.cls ≠ "java/lang/invoke/VarHandle" ∧ (parseMethodDescriptor yX0_remove.desc).map (fun d => d.parameters.length) = some 1 := by decide +kernel
set_option maxHeartbeats 4000000 in
set_option maxRecDepth 100000 in
/-- takeHead of a row a :: t -/
theorem c_X0_takeHead (l : Launch) (K : gT) (p q a : Nat) (t : List Nat) (f : Nat → Int32) (hR : rowR f (a :: t)) : Ci l yX0_takeHead wsX0_takeHead rmX0_takeHead K [.ref p] [(p, .inr (0, [.ref q, .int (nI ((a :: t).length))])), (q, .inl (K.2.1, 17, .inl f))] (fun (r : Int32) (u : Nat → Int32) => r = nI a ∧ rowR u t) (fun u => [(p, .inr (0, [.ref q, .int (nI t.length)])), (q, .inl (K.2.1, 17, .inl u))]) 0 0 := by
  refine m_i (cc := cX0_takeHead) (own := RX0) (maxL := 2) (lv0 := [(0, .ref p)]) (by decide) rfl rfl (Nat.le_of_ble_eq_true rfl) rfl ?_
  intro X hX hin hret
  have hlen := hR.1
  refine g_aload_n (pc := 0) hX dX0_takeHead_0 rfl 0 rfl ?_
  refine g_iconst (pc := 1) (v := (nI 0)) hX dX0_takeHead_1 (by decide) ?_
  refine g_ci (pc := 2) hX (wc := [(p, .inr (0, [.ref q, .int (nI ((a :: t).length))])), (q, .inl (K.2.1, 17, .inl f))]) (wr := []) (Wd' := fun u => [(p, .inr (0, [.ref q, .int (nI ((a :: t).length))])), (q, .inl (K.2.1, 17, .inl f))]) (g_goV (pc := 2) hX (As := [.int (nI 0)]) (stk := []) (wc := [(p, .inr (0, [.ref q, .int (nI ((a :: t).length))])), (q, .inl (K.2.1, 17, .inl f))]) (c_X0_at l K p q (a :: t) f hR (nI 0)) rfl rfl rfl gX0_takeHead_X0_at nX0_atV rfl 0 rfl ⟨(Nat.le_of_ble_eq_true rfl), (Nat.le_of_ble_eq_true rfl)⟩ [0, 1] rfl rfl rfl (Nat.le_of_ble_eq_true rfl) dX0_takeHead_2 ⟨(Nat.le_of_ble_eq_true rfl), (Nat.le_of_ble_eq_true rfl)⟩) [0, 1] [] [0, 1] rfl rfl rfl (by decide) rfl (fun _ => rfl) (fun r u h2 => ?_)
  obtain rfl := h2
  refine g_top (y := nI a) (by unfold atI; rw [if_neg (by decide), if_neg (nI_nle2 (a := 0) (by show 0 < t.length + 1; omega) (by show t.length + 1 < 2 ^ 31; have hlen2 : t.length + 1 ≤ 17 := hlen; omega))]; rfl) ?_
  have ha : a < 64 := hR.2.1 a List.mem_cons_self
  refine g_istore_n (pc := 5) (lv' := [(1, .int (nI a)), (0, .ref p)]) hX dX0_takeHead_5 rfl (by decide) rfl ?_
  refine g_aload_n (pc := 6) hX dX0_takeHead_6 rfl 1 rfl ?_
  refine g_iload_n (pc := 7) hX dX0_takeHead_7 rfl 0 rfl ?_
  refine g_ci (pc := 8) hX (wc := [(p, .inr (0, [.ref q, .int (nI ((a :: t).length))])), (q, .inl (K.2.1, 17, .inl f))]) (wr := []) (Wd' := fun u8 => [(p, .inr (0, [.ref q, .int (nI ((rm (a :: t) a).length))])), (q, .inl (K.2.1, 17, .inl u8))]) (g_goV (pc := 8) hX (As := [.int (nI a)]) (stk := []) (wc := [(p, .inr (0, [.ref q, .int (nI ((a :: t).length))])), (q, .inl (K.2.1, 17, .inl f))]) (c_X0_remove l K p q (a :: t) f hR a ha) rfl rfl rfl gX0_takeHead_X0_remove nX0_removeV rfl 0 rfl ⟨(Nat.le_of_ble_eq_true rfl), (Nat.le_of_ble_eq_true rfl)⟩ [0, 1] rfl rfl rfl (Nat.le_of_ble_eq_true rfl) dX0_takeHead_8 ⟨(Nat.le_of_ble_eq_true rfl), (Nat.le_of_ble_eq_true rfl)⟩) [0, 1] [] [0, 1] rfl rfl rfl (by decide) rfl (fun _ => rfl) (fun r u8 h8 => ?_)
  obtain ⟨rfl, hR8⟩ := h8
  refine g_pop (pc := 11) hX dX0_takeHead_11 rfl ?_
  refine g_iload_n (pc := 12) hX dX0_takeHead_12 rfl 0 rfl ?_
  refine g_ws (ws' := [(p, .inr (0, [.ref q, .int (nI t.length)])), (q, .inl (K.2.1, 17, .inl u8))]) (by rw [rm_head]) ?_
  rw [rm_head] at hR8
  exact hret (u := u8) dX0_takeHead_13 (⟨rfl, hR8⟩) rfl
end
section
/-! THE SPECIFICATION, PURE: what each policy does to the rows of a tier (lists of pages), as functions -/
def setB (M : Nat → Bool) (p : Nat) (v : Bool) : Nat → Bool := fun q => if q = p then v else M q
/-- RECENT: the victim and row 0 -/
def sRecent (c : Nat) (a : List Nat) (x : Nat) : Option Nat × List Nat :=
  if x ∈ a then (none, x :: rm a x) else if a.length = c then (a.getLast?, x :: a.dropLast) else (none, x :: a)
/-- as long as the head is marked it is unmarked and comes to the tail, n times at most -/
def sSpin : Nat → List Nat → (Nat → Bool) → List Nat × (Nat → Bool)
  | 0, l, M => (l, M)
  | _ + 1, [], M => ([], M)
  | n + 1, a :: t, M => if M a = true then sSpin n (t ++ [a]) (setB M a false) else (a :: t, M)
/-- CLOCK: the victim, row 0 and the marks -/
def sClock (c : Nat) (a : List Nat) (M : Nat → Bool) (x : Nat) : Option Nat × List Nat × (Nat → Bool) :=
  if x ∈ a then (none, a, setB M x true)
  else if a.length = c then ((sSpin a.length a M).1.head?, (sSpin a.length a M).1.tail ++ [x], (sSpin a.length a M).2)
  else (none, a ++ [x], M)
/-- QUEUES: to make room: the victim and rows 0, 1, 2 -/
def sQroom (c : Nat) (a b d : List Nat) : Option Nat × List Nat × List Nat × List Nat :=
  if a.length + d.length < c then (none, a, b, d)
  else if a.length ≤ c / 4 then (d.getLast?, a, b, d.dropLast)
  else (some (lastD a), a.dropLast, (if max 1 (c / 2) < b.length + 1 then (lastD a :: b).dropLast else lastD a :: b), d)
def sQueues (c : Nat) (a b d : List Nat) (x : Nat) : Option Nat × List Nat × List Nat × List Nat :=
  if x ∈ d then (none, a, b, x :: rm d x)
  else if x ∈ a then (none, a, b, d)
  else if x ∈ b then ((sQroom c a (rm b x) d).1, (sQroom c a (rm b x) d).2.1, (sQroom c a (rm b x) d).2.2.1, x :: (sQroom c a (rm b x) d).2.2.2)
  else ((sQroom c a b d).1, x :: (sQroom c a b d).2.1, (sQroom c a b d).2.2.1, (sQroom c a b d).2.2.2)
/-- BALANCED: does the page that is put out come from row 0; the page; the rows behind it -/
def sFirst (g : Nat) (f3 : Bool) (a : List Nat) : Bool := decide (0 < a.length ∧ (g < a.length ∨ (a.length = g ∧ f3 = true)))
def sOut (g : Nat) (f3 : Bool) (a b d e : List Nat) : Nat × List Nat × List Nat × List Nat × List Nat :=
  if sFirst g f3 a = true then (lastD a, a.dropLast, b, lastD a :: d, e) else (lastD b, a, b.dropLast, d, lastD b :: e)
def sStep (other own : Nat) : Nat := max 1 (other / own)
/-- a page that comes back from row 2 (f3 = false) or 3 -/
def sBack (g : Nat) (f3 : Bool) (a b d e : List Nat) (x : Nat) : Nat × List Nat × List Nat × List Nat × List Nat :=
  ((sOut g f3 a b d e).1, (sOut g f3 a b d e).2.1, x :: (sOut g f3 a b d e).2.2.1,
    (if f3 = true then (sOut g f3 a b d e).2.2.2.1 else rm (sOut g f3 a b d e).2.2.2.1 x),
    (if f3 = true then rm (sOut g f3 a b d e).2.2.2.2 x else (sOut g f3 a b d e).2.2.2.2))
/-- room for a page that is in no row: the victim and the rows -/
def sNew (c g : Nat) (a b d e : List Nat) : Option Nat × List Nat × List Nat × List Nat × List Nat :=
  if a.length + d.length = c then
    if a.length = c then (some (lastD a), a.dropLast, b, d, e)
    else (some (sOut g false a b d.dropLast e).1, (sOut g false a b d.dropLast e).2)
  else if a.length + d.length + b.length + e.length < c then (none, a, b, d, e)
  else if a.length + d.length + b.length + e.length = 2 * c then (some (sOut g false a b d e.dropLast).1, (sOut g false a b d e.dropLast).2)
  else (some (sOut g false a b d e).1, (sOut g false a b d e).2)
/-- BALANCED: the victim, the goal, rows 0 to 3 -/
def sBal (c g : Nat) (a b d e : List Nat) (x : Nat) : Option Nat × Nat × List Nat × List Nat × List Nat × List Nat :=
  if x ∈ a then (none, g, rm a x, x :: b, d, e)
  else if x ∈ b then (none, g, a, x :: rm b x, d, e)
  else if x ∈ d then (some (sBack (min c (g + sStep e.length d.length)) false a b d e x).1, min c (g + sStep e.length d.length), (sBack (min c (g + sStep e.length d.length)) false a b d e x).2)
  else if x ∈ e then (some (sBack (g - sStep d.length e.length) true a b d e x).1, g - sStep d.length e.length, (sBack (g - sStep d.length e.length) true a b d e x).2)
  else ((sNew c g a b d e).1, g, x :: (sNew c g a b d e).2.1, (sNew c g a b d e).2.2)
/-! THE TIER: (policy, capacity, goal), rows, (marks, dirty), (hits, misses, dirty victims) -/
abbrev TS : Type := (Nat × Nat × Nat) × (List Nat × List Nat × List Nat × List Nat) × ((Nat → Bool) × (Nat → Bool)) × (Int32 × Int32 × Int32)
def sHolds (pol : Nat) (a b d : List Nat) (x : Nat) : Bool := decide (x ∈ a) || decide (x ∈ (if pol = 2 then d else b))
def tHolds (S : TS) (x : Nat) : Bool := sHolds S.1.1 S.2.1.1 S.2.1.2.1 S.2.1.2.2.1 x
/-- what the policy of a tier does: the victim, the goal, the rows, the marks -/
def sPol (pol c g : Nat) (a b d e : List Nat) (M : Nat → Bool) (x : Nat) : Option Nat × Nat × (List Nat × List Nat × List Nat × List Nat) × (Nat → Bool) :=
  if pol = 0 then ((sRecent c a x).1, g, ((sRecent c a x).2, b, d, e), M)
  else if pol = 1 then ((sClock c a M x).1, g, ((sClock c a M x).2.1, b, d, e), (sClock c a M x).2.2)
  else if pol = 2 then ((sQueues c a b d x).1, g, ((sQueues c a b d x).2.1, (sQueues c a b d x).2.2.1, (sQueues c a b d x).2.2.2, e), M)
  else ((sBal c g a b d e x).1, (sBal c g a b d e x).2.1, (sBal c g a b d e x).2.2, M)
def tPol (S : TS) (x : Nat) : Option Nat × Nat × (List Nat × List Nat × List Nat × List Nat) × (Nat → Bool) := sPol S.1.1 S.1.2.1 S.1.2.2 S.2.1.1 S.2.1.2.1 S.2.1.2.2.1 S.2.1.2.2.2 S.2.2.1.1 x
/-- to touch -/
def tTouch (S : TS) (x : Nat) : Option Nat × TS :=
  ((tPol S x).1, (S.1.1, S.1.2.1, (tPol S x).2.1), (tPol S x).2.2.1, ((tPol S x).2.2.2, S.2.2.1.2), ((if tHolds S x = true then S.2.2.2.1 + 1 else S.2.2.2.1), (if tHolds S x = true then S.2.2.2.2.1 else S.2.2.2.2.1 + 1), S.2.2.2.2.2))
def tDirty (S : TS) (p : Nat) (v : Bool) : TS := (S.1, S.2.1, (S.2.2.1.1, setB S.2.2.1.2 p v), S.2.2.2)
/-- a victim that was dirty: it is not any more, and it is counted -/
def tVic (S : TS) (o : Option Nat) : Bool × TS := match o with
  | none => (false, S)
  | some p => if S.2.2.1.2 p = true then (true, (S.1, S.2.1, (S.2.2.1.1, setB S.2.2.1.2 p false), (S.2.2.2.1, S.2.2.2.2.1, S.2.2.2.2.2 + 1))) else (false, S)
/-- the whole: the two tiers, reads, writes -/
abbrev CS : Type := TS × TS × Int32 × Int32
/-- to ask tier 1: was it a hit; the whole behind it -/
def cAsk (C : CS) (x : Nat) (w : Bool) : Bool × CS :=
  (tHolds C.2.1 x,
    (C.1, (if w = true then tDirty (tVic (tTouch C.2.1 x).2 (tTouch C.2.1 x).1).2 x true else (tVic (tTouch C.2.1 x).2 (tTouch C.2.1 x).1).2),
      (if tHolds C.2.1 x = false ∧ w = false then C.2.2.1 + 1 else C.2.2.1),
      (if (tVic (tTouch C.2.1 x).2 (tTouch C.2.1 x).1).1 = true then C.2.2.2 + 1 else C.2.2.2)))
/-- access, step by step: the touching; the bringing in; the victim; the dirtiness -/
def cAcc1 (C : CS) (x : Nat) : CS := ((tTouch C.1 x).2, C.2)
def cAcc2 (C : CS) (x : Nat) : Int32 × CS := if tHolds C.1 x = true then (0, cAcc1 C x) else ((if (cAsk (cAcc1 C x) x false).1 = true then 1 else 2), (cAsk (cAcc1 C x) x false).2)
def cAcc3 (D : CS) (o : Option Nat) : CS := if (tVic D.1 o).1 = true then (match o with | none => D | some p => (cAsk ((tVic D.1 o).2, D.2) p true).2) else D
def cAcc (C : CS) (x : Nat) (w : Bool) : Int32 × CS :=
  ((cAcc2 C x).1, if w = true then (tDirty (cAcc3 (cAcc2 C x).2 (tTouch C.1 x).1).1 x true, (cAcc3 (cAcc2 C x).2 (tTouch C.1 x).1).2) else cAcc3 (cAcc2 C x).2 (tTouch C.1 x).1)
/-- flush: tier 0's pages below n; tier 1's pages below n -/
def cFl0 : Nat → CS → CS
  | 0, C => C
  | n + 1, C => if (cFl0 n C).1.2.2.1.2 n = true then (cAsk (tDirty (cFl0 n C).1 n false, (cFl0 n C).2) n true).2 else cFl0 n C
def cFl1 : Nat → CS → CS
  | 0, C => C
  | n + 1, C => if (cFl1 n C).2.1.2.2.1.2 n = true then ((cFl1 n C).1, tDirty (cFl1 n C).2.1 n false, (cFl1 n C).2.2.1, (cFl1 n C).2.2.2 + 1) else cFl1 n C
def cFlush (C : CS) : Int32 × CS := ((cFl1 64 (cFl0 64 C)).2.2.2 - C.2.2.2, cFl1 64 (cFl0 64 C))
def tNew (pol c : Nat) : TS := ((pol, c, 0), ([], [], [], []), (fun _ => false, fun _ => false), (0, 0, 0))
def okPC (p c : Int32) : Bool := decide (0 ≤ p) && decide (p ≤ 3) && decide (1 ≤ c) && decide (c ≤ 16)
def cBegin (C : CS) (p0 c0 p1 c1 : Int32) : Bool × CS :=
  if okPC p0 c0 = true ∧ okPC p1 c1 = true then (true, (tNew p0.toNatClampNeg c0.toNatClampNeg, tNew p1.toNatClampNeg c1.toNatClampNeg, 0, 0)) else (false, C)
def cNew : CS := (tNew 0 4, tNew 0 8, 0, 0)
def okPg (x : Int32) : Bool := decide (0 ≤ x) && decide (x < 64)
def cAccess (C : CS) (x : Int32) (w : Bool) : Int32 × CS := if okPg x = true then cAcc C x.toNatClampNeg w else (-1, C)
/-- the answers that change nothing -/
def cTier (C : CS) (t : Int32) : Option TS := if t = 0 then some C.1 else if t = 1 then some C.2.1 else none
def cRes (C : CS) (t x : Int32) : Bool := match cTier C t with | none => false | some S => okPg x && tHolds S x.toNatClampNeg
def cDirt (C : CS) (t x : Int32) : Bool := match cTier C t with | none => false | some S => okPg x && S.2.2.1.2 x.toNatClampNeg
def cMark (C : CS) (t x : Int32) : Bool := match cTier C t with | none => false | some S => okPg x && S.2.2.1.1 x.toNatClampNeg
def sRow (a b d e : List Nat) (r i : Int32) : Int32 := if r = 0 then atI a i else if r = 1 then atI b i else if r = 2 then atI d i else if r = 3 then atI e i else -1
def tRow (S : TS) (r i : Int32) : Int32 := sRow S.2.1.1 S.2.1.2.1 S.2.1.2.2.1 S.2.1.2.2.2 r i
def cRow (C : CS) (t r i : Int32) : Int32 := match cTier C t with | none => -1 | some S => tRow S r i
def sGoal (pol g : Nat) : Int32 := if pol = 3 then nI g else -1
def tGoal (S : TS) : Int32 := sGoal S.1.1 S.1.2.2
def cGoal (C : CS) (t : Int32) : Int32 := match cTier C t with | none => -1 | some S => tGoal S
def sCount (hi mi dv k : Int32) : Int32 := if k = 0 then hi else if k = 1 then mi else if k = 2 then dv else -1
def tCount (S : TS) (k : Int32) : Int32 := sCount S.2.2.2.1 S.2.2.2.2.1 S.2.2.2.2.2 k
def cCount (C : CS) (t k : Int32) : Int32 := match cTier C t with | none => -1 | some S => tCount S k
/-! the bits of the class's two longs -/
def btL (p : Nat) : Int64 := (1 : Int64) <<< ((nI p).toInt64 &&& 63)
def bitsR (w : Int64) (D : Nat → Bool) : Prop := ∀ p, p < 64 → w.toBitVec.getLsbD p = D p
theorem btL_bv : ∀ p, p < 64 → (btL p).toBitVec = BitVec.twoPow 64 p := by decide +kernel
theorem bits_and {w : Int64} {D : Nat → Bool} (h : bitsR w D) {p : Nat} (hp : p < 64) : w &&& btL p = 0 ↔ D p = false := by
  rw [← h p hp]
  constructor
  · intro e
    have e2 : (w &&& btL p).toBitVec.getLsbD p = (0 : Int64).toBitVec.getLsbD p := by rw [e]
    rw [Int64.toBitVec_and, btL_bv p hp] at e2
    simpa [hp] using e2
  · intro e
    apply Int64.toBitVec.inj
    rw [Int64.toBitVec_and, btL_bv p hp]
    apply BitVec.eq_of_getLsbD_eq
    intro i hi
    rw [BitVec.getLsbD_and, BitVec.getLsbD_twoPow]
    by_cases hpi : p = i
    · subst hpi
      rw [e]
      simp
    · simp [hpi]
theorem bits_or {w : Int64} {D : Nat → Bool} (h : bitsR w D) {p : Nat} (hp : p < 64) : bitsR (w ||| btL p) (setB D p true) := by
  intro q hq
  rw [Int64.toBitVec_or, btL_bv p hp, BitVec.getLsbD_or, BitVec.getLsbD_twoPow, h q hq]
  unfold setB
  by_cases e : q = p
  · subst e
    simp [hq]
  · rw [if_neg e]
    have e2 : ¬ p = q := fun z => e z.symm
    simp [e2]
theorem bits_clr {w : Int64} {D : Nat → Bool} (h : bitsR w D) {p : Nat} (hp : p < 64) : bitsR (w &&& (btL p ^^^ (-1))) (setB D p false) := by
  intro q hq
  rw [Int64.toBitVec_and, Int64.toBitVec_xor, btL_bv p hp, BitVec.getLsbD_and, BitVec.getLsbD_xor, BitVec.getLsbD_twoPow, h q hq]
  have e1 : ((-1 : Int64).toBitVec).getLsbD q = true := by
    have : (-1 : Int64).toBitVec = BitVec.allOnes 64 := by decide
    rw [this, BitVec.getLsbD_allOnes]
    exact decide_eq_true hq
  rw [e1]
  unfold setB
  by_cases e : q = p
  · subst e
    simp [hq]
  · rw [if_neg e]
    have e2 : ¬ p = q := fun z => e z.symm
    simp [e2]
theorem bits_0 : bitsR 0 (fun _ => false) := by
  intro p hp
  simp
theorem bI_of {w : Int64} {D : Nat → Bool} (h : bitsR w D) {p : Nat} (hp : p < 64) : (if w &&& btL p = 0 then false else true) = D p := by
  by_cases e : w &&& btL p = 0
  · rw [if_pos e, (bits_and h hp).mp e]
  · rw [if_neg e]
    cases hd : D p with
    | true => rfl
    | false => exact absurd ((bits_and h hp).mpr hd) e
/-! what always holds of a tier's rows, by its policy -/
def pBal (c g : Nat) (a b d e : List Nat) : Prop := 1 ≤ c ∧ c ≤ 16 ∧ g ≤ c ∧ a.length + b.length ≤ c ∧ a.length + d.length ≤ c ∧ a.length + b.length + d.length + e.length ≤ 2 * c ∧ (0 < d.length + e.length → a.length + b.length = c)
def pInv (pol c g : Nat) (a b d e : List Nat) : Prop := 1 ≤ c ∧ c ≤ 16 ∧ pol < 4 ∧ g ≤ c ∧ (pol < 2 → a.length ≤ c ∧ b = [] ∧ d = [] ∧ e = []) ∧ (pol = 2 → a.length + d.length ≤ c ∧ b.length ≤ 16 ∧ e = []) ∧ (pol = 3 → pBal c g a b d e)
theorem lgc_eq (x y : Int64) : lg_cmp x y = 0 ↔ x = y := by
  unfold lg_cmp
  by_cases h1 : y < x
  · rw [if_pos h1]
    exact ⟨fun h => absurd h (by decide), fun h => absurd h1 (by rw [h]; exact Int64.lt_irrefl)⟩
  · rw [if_neg h1]
    by_cases h2 : x = y
    · rw [if_pos h2]
      exact ⟨fun _ => h2, fun _ => rfl⟩
    · rw [if_neg h2]
      exact ⟨fun h => absurd h (by decide), fun h => absurd h h2⟩
theorem sw3 {k : Int32} (h0 : k ≠ 0) (h1 : k ≠ 1) (h2 : k ≠ 2) : k.toInt < 0 ∨ 2 < k.toInt := by
  have e0 : k.toInt ≠ 0 := fun h => h0 (Int32.toInt_inj.mp h)
  have e1 : k.toInt ≠ 1 := fun h => h1 (Int32.toInt_inj.mp h)
  have e2 : k.toInt ≠ 2 := fun h => h2 (Int32.toInt_inj.mp h)
  omega
theorem mm_max {a b : Nat} (ha : a < 2 ^ 31) (hb : b < 2 ^ 31) : (if nI a < nI b then nI b else nI a) = nI (max a b) := by
  by_cases h : a < b
  · rw [if_pos ((nI_ltI ha hb).mpr h), Nat.max_eq_right (by omega)]
  · rw [if_neg (fun q => h ((nI_ltI ha hb).mp q)), Nat.max_eq_left (by omega)]
theorem mm_min {a b : Nat} (ha : a < 2 ^ 31) (hb : b < 2 ^ 31) : (if nI b < nI a then nI b else nI a) = nI (min a b) := by
  by_cases h : b < a
  · rw [if_pos ((nI_ltI hb ha).mpr h), Nat.min_eq_right (by omega)]
  · rw [if_neg (fun q => h ((nI_ltI hb ha).mp q)), Nat.min_eq_left (by omega)]
theorem gt_of {p : Prop} [Decidable p] (h : decide p = true) : p := of_decide_eq_true h
theorem gf_of {p : Prop} [Decidable p] (h : decide p = false) : ¬ p := of_decide_eq_false h
theorem rm_le (l : List Nat) (x : Nat) : (rm l x).length ≤ l.length := by
  by_cases h : x ∈ l
  · have := rm_len h
    omega
  · rw [rm_none h]
    exact Nat.le_refl _
theorem pI_m1 {o : Option Nat} (h : ∀ p, o = some p → p < 64) : pI o = -1 ↔ o = none := by
  cases o with
  | none => exact ⟨fun _ => rfl, fun _ => rfl⟩
  | some p => exact ⟨fun e => absurd e (nI_m1 (by have := h p rfl; omega)), fun e => by cases e⟩
end
section
/-! TIER: its contracts (reads, dirtiness). tW: a tier h with its cells: ad 0 the rows, ad 1, 3, 5, 7 the four, ad 2, 4, 6, 8 their arrays -/
abbrev rw4 (a b c d : Nat) : Nat → Option Nat := va_up (va_up (va_up (va_up (fun _ => none) 0 (some a)) 1 (some b)) 2 (some c)) 3 (some d)
def adl (l : List Nat) : Nat → Nat := fun i => l.getD i 0
abbrev tW (K : gT) (h : Nat) (ad : Nat → Nat) (pol c g : Nat) (db mb : Int64) (hi mi dv : Int32) (a b d e : List Nat) (f0 f1 f2 f3 : Nat → Int32) : va_W := [(h, .inr (1, [.ref (ad 0), .int (nI pol), .int (nI c), .int (nI g), .long db, .long mb, .int hi, .int mi, .int dv])), (ad 0, .inl (K.2.2.2, 4, .inr (.inr (.inr (.inr (rw4 (ad 1) (ad 3) (ad 5) (ad 7))))))), (ad 1, .inr (0, [.ref (ad 2), .int (nI a.length)])), (ad 2, .inl (K.2.1, 17, .inl f0)), (ad 3, .inr (0, [.ref (ad 4), .int (nI b.length)])), (ad 4, .inl (K.2.1, 17, .inl f1)), (ad 5, .inr (0, [.ref (ad 6), .int (nI d.length)])), (ad 6, .inl (K.2.1, 17, .inl f2)), (ad 7, .inr (0, [.ref (ad 8), .int (nI e.length)])), (ad 8, .inl (K.2.1, 17, .inl f3))]
abbrev rmX1_init : Room := { frames := 2, cells := 9, slots := 80, locals := 60 }
theorem wdX1_init_ml3 : Cond.methodLink RX1 3 objectInit ∈ wsX1_init := by decide +kernel
theorem wdX1_init_oi : Cond.instanceMethod objectInit ∈ wsX1_init := by decide +kernel
theorem wdX1_init_oc : Cond.code objectInit ⟨#[0xb1]⟩ 1 none ∈ wsX1_init := by decide +kernel
theorem wdX1_init_cl11 : Cond.classLink RX1 11 RX0 ∈ wsX1_init := by decide +kernel
theorem flX1_init_13 : Cond.fieldLink RX1 13 "TwoTierCache$Tier" "rows" "[LTwoTierCache$PageRow;" ∈ wsX1_init := by decide +kernel
theorem inX1_init_X1 : ∀ w ∈ u_ws RX1 TX1 9, w ∈ wsX1_init := by decide +kernel
theorem wdX1_init_inX0 : Cond.instantiable RX0 2 ∈ wsX1_init := by decide +kernel
theorem wdX1_init_iiX0 : Cond.initialized RX0 ∈ wsX1_init := by decide +kernel
theorem inX1_init_X0 : ∀ w ∈ u_ws RX0 TX0 2, w ∈ wsX1_init := by decide +kernel
theorem nX0_initS : yX0_init.cls ≠ "java/lang/invoke/MethodHandle" ∧ yX0_init.cls ≠ "java/lang/invoke/VarHandle" ∧ (parseMethodDescriptor yX0_init.desc).map (fun d => d.parameters.length) = some 0 := by decide +kernel
theorem wdX1_init_iyX0_init : Cond.initialized yX0_init.cls ∈ wsX1_init := by decide +kernel
theorem wdX1_init_imX0_init : Cond.instanceMethod yX0_init ∈ wsX1_init := by decide +kernel
theorem flX1_init_18 : Cond.fieldLink RX1 18 "TwoTierCache$Tier" "policy" "I" ∈ wsX1_init := by decide +kernel
theorem flX1_init_22 : Cond.fieldLink RX1 22 "TwoTierCache$Tier" "capacity" "I" ∈ wsX1_init := by decide +kernel
set_option maxHeartbeats 4000000 in
set_option maxRecDepth 100000 in
/-- Tier(policy, capacity): four empty rows -/
theorem c_X1_init (l : Launch) (K : gT) (h pol c : Nat) : Cv l yX1_init wsX1_init rmX1_init K [.ref h, .int (nI pol), .int (nI c)] [(h, .inr (1, [.null, .int 0, .int 0, .int 0, .long 0, .long 0, .int 0, .int 0, .int 0]))] (fun (u : Nat → Nat) => True) (fun u => tW K h u pol c 0 0 0 0 0 0 ([]) ([]) ([]) ([]) (fun _ => 0) (fun _ => 0) (fun _ => 0) (fun _ => 0)) 9 80 := by
  refine m_v (cc := cX1_init) (own := RX1) (maxL := 4) (lv0 := [(0, .ref h), (1, .int (nI pol)), (2, .int (nI c))]) (by decide) rfl rfl (Nat.le_of_ble_eq_true rfl) rfl ?_
  intro X hX hin hret
  refine g_aload_n (pc := 0) hX dX1_init_0 rfl 0 rfl ?_
  refine g_objInit (pc := 1) hX wdX1_init_ml3 wdX1_init_oi wdX1_init_oc (Nat.le_of_ble_eq_true rfl) (Nat.le_of_ble_eq_true rfl) dX1_init_1 ?_
  refine g_aload_n (pc := 4) hX dX1_init_4 rfl 0 rfl ?_
  refine g_iconst (pc := 5) (v := (nI 4)) hX dX1_init_5 (by decide) ?_
  refine g_newQ (pc := 6) hX wdX1_init_cl11 (by decide) (by decide) (Nat.le_of_ble_eq_true rfl) (Nat.le_of_ble_eq_true rfl) dX1_init_6 (fun q6 => ?_)
  refine g_putF (pc := 9) (C := RX1) (T := TX1) (N := 9) (ci := 1) (v := .ref q6) (ws' := [(h, .inr (1, [.ref q6, .int 0, .int 0, .int 0, .long 0, .long 0, .int 0, .int 0, .int 0])), (q6, .inl (K.2.2.2, 4, .inr (.inr (.inr (.inr (fun _ => none))))))]) hX (hin rfl) inX1_init_X1 tyX1 tyX1_ok nmX1 0 rfl rfl 0 (by decide) flX1_init_13 rfl rfl rfl rfl rfl (Nat.le_of_ble_eq_true rfl) rfl dX1_init_9 ?_
  refine g_iconst (pc := 12) (v := (nI 0)) hX dX1_init_12 (by decide) ?_
  refine g_istore_n (pc := 13) (lv' := [(3, .int (nI 0)), (0, .ref h), (1, .int (nI pol)), (2, .int (nI c))]) hX dX1_init_13 rfl (by decide) rfl ?_
  refine g_iload_n (pc := 14) hX dX1_init_14 rfl 0 rfl ?_
  refine g_iconst (pc := 15) (v := (nI 4)) hX dX1_init_15 (by decide) ?_
  refine g_icmpN_ge (pc := 16) (tgt := 38) hX (by omega) (by omega) dX1_init_16 (by decide) (fun c16 => absurd c16 (by omega)) (fun c16 => ?_)
  refine g_aload_n (pc := 19) hX dX1_init_19 rfl 1 rfl ?_
  refine g_get (pc := 20) (C := RX1) (T := TX1) (N := 9) (ci := 1) (v := .ref q6) hX inX1_init_X1 0 rfl rfl 0 (by decide) flX1_init_13 rfl rfl dX1_init_20 ?_
  refine g_iload_n (pc := 23) hX dX1_init_23 rfl 0 rfl ?_
  refine g_new (pc := 24) (C := RX0) (T := TX0) (N := 2) (ci := 0) (fs := [.null, .int 0]) hX inX1_init_X0 tyX0 tyX0_ok wdX1_init_cl11 wdX1_init_inX0 wdX1_init_iiX0 rfl (fun j hj => by rcases (show j = 0 ∨ j = 1 by omega) with rfl | rfl <;> rfl) (Nat.le_of_ble_eq_true rfl) (Nat.le_of_ble_eq_true rfl) dX1_init_24 (fun q24 => ?_)
  refine g_dup (pc := 27) hX dX1_init_27 rfl ?_
  refine g_cv (pc := 28) hX (wc := [(q24, .inr (0, [.null, .int 0]))]) (wr := [(h, .inr (1, [.ref q6, .int 0, .int 0, .int 0, .long 0, .long 0, .int 0, .int 0, .int 0])), (q6, .inl (K.2.2.2, 4, .inr (.inr (.inr (.inr (fun _ => none))))))]) (Wd' := fun u28_0 => [(h, .inr (1, [.ref q6, .int 0, .int 0, .int 0, .long 0, .long 0, .int 0, .int 0, .int 0])), (q6, .inl (K.2.2.2, 4, .inr (.inr (.inr (.inr (fun _ => none)))))), (q24, .inr (0, [.ref u28_0, .int 0])), (u28_0, .inl (K.2.1, 17, .inl (fun _ => 0)))]) (g_goIN (pc := 28) hX (As := []) (stk := [.ref q24, .int (nI 0), .ref q6]) (wc := [(q24, .inr (0, [.null, .int 0]))]) (c_X0_init l K q24) rfl rfl rfl gX1_init_X0_init_n17 wdX1_init_iyX0_init rfl rfl rfl wdX1_init_imX0_init rfl nX0_initS ⟨(Nat.le_of_ble_eq_true rfl), (Nat.le_of_ble_eq_true rfl)⟩ [2] rfl rfl rfl (Nat.le_of_ble_eq_true rfl) dX1_init_28 ⟨(Nat.le_of_ble_eq_true rfl), (Nat.le_of_ble_eq_true rfl)⟩) [2] [0, 1] [0, 1, 2, 3] rfl rfl rfl (by decide) rfl (fun _ => rfl) (fun u28_0 h28 => ?_)
  obtain _ := h28
  refine g_astq (pc := 31) (ws' := [(h, .inr (1, [.ref q6, .int 0, .int 0, .int 0, .long 0, .long 0, .int 0, .int 0, .int 0])), (q6, .inl (K.2.2.2, 4, .inr (.inr (.inr (.inr (va_up (fun _ => none) 0 (some q24))))))), (q24, .inr (0, [.ref u28_0, .int 0])), (u28_0, .inl (K.2.1, 17, .inl (fun _ => 0)))]) hX 1 2 rfl rfl (by omega) (by omega) rfl dX1_init_31 ?_
  refine g_iinc (pc := 32) (z := 0) (v := (nI 1)) (lv' := [(3, .int (nI 1)), (0, .ref h), (1, .int (nI pol)), (2, .int (nI c))]) hX dX1_init_32 rfl (by first | exact nI_add _ _ | rfl) (by decide) rfl ?_
  refine g_goto (pc := 35) (tgt := 14) hX dX1_init_35 (by decide) ?_
  refine g_iload_n (pc := 14) hX dX1_init_14 rfl 0 rfl ?_
  refine g_iconst (pc := 15) (v := (nI 4)) hX dX1_init_15 (by decide) ?_
  refine g_icmpN_ge (pc := 16) (tgt := 38) hX (by omega) (by omega) dX1_init_16 (by decide) (fun c16_1 => absurd c16_1 (by omega)) (fun c16_1 => ?_)
  refine g_aload_n (pc := 19) hX dX1_init_19 rfl 1 rfl ?_
  refine g_get (pc := 20) (C := RX1) (T := TX1) (N := 9) (ci := 1) (v := .ref q6) hX inX1_init_X1 0 rfl rfl 0 (by decide) flX1_init_13 rfl rfl dX1_init_20 ?_
  refine g_iload_n (pc := 23) hX dX1_init_23 rfl 0 rfl ?_
  refine g_new (pc := 24) (C := RX0) (T := TX0) (N := 2) (ci := 0) (fs := [.null, .int 0]) hX inX1_init_X0 tyX0 tyX0_ok wdX1_init_cl11 wdX1_init_inX0 wdX1_init_iiX0 rfl (fun j hj => by rcases (show j = 0 ∨ j = 1 by omega) with rfl | rfl <;> rfl) (Nat.le_of_ble_eq_true rfl) (Nat.le_of_ble_eq_true rfl) dX1_init_24 (fun q24_1 => ?_)
  refine g_dup (pc := 27) hX dX1_init_27 rfl ?_
  refine g_cv (pc := 28) hX (wc := [(q24_1, .inr (0, [.null, .int 0]))]) (wr := [(h, .inr (1, [.ref q6, .int 0, .int 0, .int 0, .long 0, .long 0, .int 0, .int 0, .int 0])), (q6, .inl (K.2.2.2, 4, .inr (.inr (.inr (.inr (va_up (fun _ => none) 0 (some q24))))))), (q24, .inr (0, [.ref u28_0, .int 0])), (u28_0, .inl (K.2.1, 17, .inl (fun _ => 0)))]) (Wd' := fun u28_1 => [(h, .inr (1, [.ref q6, .int 0, .int 0, .int 0, .long 0, .long 0, .int 0, .int 0, .int 0])), (q6, .inl (K.2.2.2, 4, .inr (.inr (.inr (.inr (va_up (fun _ => none) 0 (some q24))))))), (q24, .inr (0, [.ref u28_0, .int 0])), (u28_0, .inl (K.2.1, 17, .inl (fun _ => 0))), (q24_1, .inr (0, [.ref u28_1, .int 0])), (u28_1, .inl (K.2.1, 17, .inl (fun _ => 0)))]) (g_goIN (pc := 28) hX (As := []) (stk := [.ref q24_1, .int (nI 1), .ref q6]) (wc := [(q24_1, .inr (0, [.null, .int 0]))]) (c_X0_init l K q24_1) rfl rfl rfl gX1_init_X0_init_n17 wdX1_init_iyX0_init rfl rfl rfl wdX1_init_imX0_init rfl nX0_initS ⟨(Nat.le_of_ble_eq_true rfl), (Nat.le_of_ble_eq_true rfl)⟩ [4] rfl rfl rfl (Nat.le_of_ble_eq_true rfl) dX1_init_28 ⟨(Nat.le_of_ble_eq_true rfl), (Nat.le_of_ble_eq_true rfl)⟩) [4] [0, 1, 2, 3] [0, 1, 2, 3, 4, 5] rfl rfl rfl (by decide) rfl (fun _ => rfl) (fun u28_1 h28 => ?_)
  obtain _ := h28
  refine g_astq (pc := 31) (ws' := [(h, .inr (1, [.ref q6, .int 0, .int 0, .int 0, .long 0, .long 0, .int 0, .int 0, .int 0])), (q6, .inl (K.2.2.2, 4, .inr (.inr (.inr (.inr (va_up (va_up (fun _ => none) 0 (some q24)) 1 (some q24_1))))))), (q24, .inr (0, [.ref u28_0, .int 0])), (u28_0, .inl (K.2.1, 17, .inl (fun _ => 0))), (q24_1, .inr (0, [.ref u28_1, .int 0])), (u28_1, .inl (K.2.1, 17, .inl (fun _ => 0)))]) hX 1 4 rfl rfl (by omega) (by omega) rfl dX1_init_31 ?_
  refine g_iinc (pc := 32) (z := 0) (v := (nI 2)) (lv' := [(3, .int (nI 2)), (0, .ref h), (1, .int (nI pol)), (2, .int (nI c))]) hX dX1_init_32 rfl (by first | exact nI_add _ _ | rfl) (by decide) rfl ?_
  refine g_goto (pc := 35) (tgt := 14) hX dX1_init_35 (by decide) ?_
  refine g_iload_n (pc := 14) hX dX1_init_14 rfl 0 rfl ?_
  refine g_iconst (pc := 15) (v := (nI 4)) hX dX1_init_15 (by decide) ?_
  refine g_icmpN_ge (pc := 16) (tgt := 38) hX (by omega) (by omega) dX1_init_16 (by decide) (fun c16_2 => absurd c16_2 (by omega)) (fun c16_2 => ?_)
  refine g_aload_n (pc := 19) hX dX1_init_19 rfl 1 rfl ?_
  refine g_get (pc := 20) (C := RX1) (T := TX1) (N := 9) (ci := 1) (v := .ref q6) hX inX1_init_X1 0 rfl rfl 0 (by decide) flX1_init_13 rfl rfl dX1_init_20 ?_
  refine g_iload_n (pc := 23) hX dX1_init_23 rfl 0 rfl ?_
  refine g_new (pc := 24) (C := RX0) (T := TX0) (N := 2) (ci := 0) (fs := [.null, .int 0]) hX inX1_init_X0 tyX0 tyX0_ok wdX1_init_cl11 wdX1_init_inX0 wdX1_init_iiX0 rfl (fun j hj => by rcases (show j = 0 ∨ j = 1 by omega) with rfl | rfl <;> rfl) (Nat.le_of_ble_eq_true rfl) (Nat.le_of_ble_eq_true rfl) dX1_init_24 (fun q24_2 => ?_)
  refine g_dup (pc := 27) hX dX1_init_27 rfl ?_
  refine g_cv (pc := 28) hX (wc := [(q24_2, .inr (0, [.null, .int 0]))]) (wr := [(h, .inr (1, [.ref q6, .int 0, .int 0, .int 0, .long 0, .long 0, .int 0, .int 0, .int 0])), (q6, .inl (K.2.2.2, 4, .inr (.inr (.inr (.inr (va_up (va_up (fun _ => none) 0 (some q24)) 1 (some q24_1))))))), (q24, .inr (0, [.ref u28_0, .int 0])), (u28_0, .inl (K.2.1, 17, .inl (fun _ => 0))), (q24_1, .inr (0, [.ref u28_1, .int 0])), (u28_1, .inl (K.2.1, 17, .inl (fun _ => 0)))]) (Wd' := fun u28_2 => [(h, .inr (1, [.ref q6, .int 0, .int 0, .int 0, .long 0, .long 0, .int 0, .int 0, .int 0])), (q6, .inl (K.2.2.2, 4, .inr (.inr (.inr (.inr (va_up (va_up (fun _ => none) 0 (some q24)) 1 (some q24_1))))))), (q24, .inr (0, [.ref u28_0, .int 0])), (u28_0, .inl (K.2.1, 17, .inl (fun _ => 0))), (q24_1, .inr (0, [.ref u28_1, .int 0])), (u28_1, .inl (K.2.1, 17, .inl (fun _ => 0))), (q24_2, .inr (0, [.ref u28_2, .int 0])), (u28_2, .inl (K.2.1, 17, .inl (fun _ => 0)))]) (g_goIN (pc := 28) hX (As := []) (stk := [.ref q24_2, .int (nI 2), .ref q6]) (wc := [(q24_2, .inr (0, [.null, .int 0]))]) (c_X0_init l K q24_2) rfl rfl rfl gX1_init_X0_init_n17 wdX1_init_iyX0_init rfl rfl rfl wdX1_init_imX0_init rfl nX0_initS ⟨(Nat.le_of_ble_eq_true rfl), (Nat.le_of_ble_eq_true rfl)⟩ [6] rfl rfl rfl (Nat.le_of_ble_eq_true rfl) dX1_init_28 ⟨(Nat.le_of_ble_eq_true rfl), (Nat.le_of_ble_eq_true rfl)⟩) [6] [0, 1, 2, 3, 4, 5] [0, 1, 2, 3, 4, 5, 6, 7] rfl rfl rfl (by decide) rfl (fun _ => rfl) (fun u28_2 h28 => ?_)
  obtain _ := h28
  refine g_astq (pc := 31) (ws' := [(h, .inr (1, [.ref q6, .int 0, .int 0, .int 0, .long 0, .long 0, .int 0, .int 0, .int 0])), (q6, .inl (K.2.2.2, 4, .inr (.inr (.inr (.inr (va_up (va_up (va_up (fun _ => none) 0 (some q24)) 1 (some q24_1)) 2 (some q24_2))))))), (q24, .inr (0, [.ref u28_0, .int 0])), (u28_0, .inl (K.2.1, 17, .inl (fun _ => 0))), (q24_1, .inr (0, [.ref u28_1, .int 0])), (u28_1, .inl (K.2.1, 17, .inl (fun _ => 0))), (q24_2, .inr (0, [.ref u28_2, .int 0])), (u28_2, .inl (K.2.1, 17, .inl (fun _ => 0)))]) hX 1 6 rfl rfl (by omega) (by omega) rfl dX1_init_31 ?_
  refine g_iinc (pc := 32) (z := 0) (v := (nI 3)) (lv' := [(3, .int (nI 3)), (0, .ref h), (1, .int (nI pol)), (2, .int (nI c))]) hX dX1_init_32 rfl (by first | exact nI_add _ _ | rfl) (by decide) rfl ?_
  refine g_goto (pc := 35) (tgt := 14) hX dX1_init_35 (by decide) ?_
  refine g_iload_n (pc := 14) hX dX1_init_14 rfl 0 rfl ?_
  refine g_iconst (pc := 15) (v := (nI 4)) hX dX1_init_15 (by decide) ?_
  refine g_icmpN_ge (pc := 16) (tgt := 38) hX (by omega) (by omega) dX1_init_16 (by decide) (fun c16_3 => absurd c16_3 (by omega)) (fun c16_3 => ?_)
  refine g_aload_n (pc := 19) hX dX1_init_19 rfl 1 rfl ?_
  refine g_get (pc := 20) (C := RX1) (T := TX1) (N := 9) (ci := 1) (v := .ref q6) hX inX1_init_X1 0 rfl rfl 0 (by decide) flX1_init_13 rfl rfl dX1_init_20 ?_
  refine g_iload_n (pc := 23) hX dX1_init_23 rfl 0 rfl ?_
  refine g_new (pc := 24) (C := RX0) (T := TX0) (N := 2) (ci := 0) (fs := [.null, .int 0]) hX inX1_init_X0 tyX0 tyX0_ok wdX1_init_cl11 wdX1_init_inX0 wdX1_init_iiX0 rfl (fun j hj => by rcases (show j = 0 ∨ j = 1 by omega) with rfl | rfl <;> rfl) (Nat.le_of_ble_eq_true rfl) (Nat.le_of_ble_eq_true rfl) dX1_init_24 (fun q24_3 => ?_)
  refine g_dup (pc := 27) hX dX1_init_27 rfl ?_
  refine g_cv (pc := 28) hX (wc := [(q24_3, .inr (0, [.null, .int 0]))]) (wr := [(h, .inr (1, [.ref q6, .int 0, .int 0, .int 0, .long 0, .long 0, .int 0, .int 0, .int 0])), (q6, .inl (K.2.2.2, 4, .inr (.inr (.inr (.inr (va_up (va_up (va_up (fun _ => none) 0 (some q24)) 1 (some q24_1)) 2 (some q24_2))))))), (q24, .inr (0, [.ref u28_0, .int 0])), (u28_0, .inl (K.2.1, 17, .inl (fun _ => 0))), (q24_1, .inr (0, [.ref u28_1, .int 0])), (u28_1, .inl (K.2.1, 17, .inl (fun _ => 0))), (q24_2, .inr (0, [.ref u28_2, .int 0])), (u28_2, .inl (K.2.1, 17, .inl (fun _ => 0)))]) (Wd' := fun u28_3 => [(h, .inr (1, [.ref q6, .int 0, .int 0, .int 0, .long 0, .long 0, .int 0, .int 0, .int 0])), (q6, .inl (K.2.2.2, 4, .inr (.inr (.inr (.inr (va_up (va_up (va_up (fun _ => none) 0 (some q24)) 1 (some q24_1)) 2 (some q24_2))))))), (q24, .inr (0, [.ref u28_0, .int 0])), (u28_0, .inl (K.2.1, 17, .inl (fun _ => 0))), (q24_1, .inr (0, [.ref u28_1, .int 0])), (u28_1, .inl (K.2.1, 17, .inl (fun _ => 0))), (q24_2, .inr (0, [.ref u28_2, .int 0])), (u28_2, .inl (K.2.1, 17, .inl (fun _ => 0))), (q24_3, .inr (0, [.ref u28_3, .int 0])), (u28_3, .inl (K.2.1, 17, .inl (fun _ => 0)))]) (g_goIN (pc := 28) hX (As := []) (stk := [.ref q24_3, .int (nI 3), .ref q6]) (wc := [(q24_3, .inr (0, [.null, .int 0]))]) (c_X0_init l K q24_3) rfl rfl rfl gX1_init_X0_init_n17 wdX1_init_iyX0_init rfl rfl rfl wdX1_init_imX0_init rfl nX0_initS ⟨(Nat.le_of_ble_eq_true rfl), (Nat.le_of_ble_eq_true rfl)⟩ [8] rfl rfl rfl (Nat.le_of_ble_eq_true rfl) dX1_init_28 ⟨(Nat.le_of_ble_eq_true rfl), (Nat.le_of_ble_eq_true rfl)⟩) [8] [0, 1, 2, 3, 4, 5, 6, 7] [0, 1, 2, 3, 4, 5, 6, 7, 8, 9] rfl rfl rfl (by decide) rfl (fun _ => rfl) (fun u28_3 h28 => ?_)
  obtain _ := h28
  refine g_astq (pc := 31) (ws' := [(h, .inr (1, [.ref q6, .int 0, .int 0, .int 0, .long 0, .long 0, .int 0, .int 0, .int 0])), (q6, .inl (K.2.2.2, 4, .inr (.inr (.inr (.inr (va_up (va_up (va_up (va_up (fun _ => none) 0 (some q24)) 1 (some q24_1)) 2 (some q24_2)) 3 (some q24_3))))))), (q24, .inr (0, [.ref u28_0, .int 0])), (u28_0, .inl (K.2.1, 17, .inl (fun _ => 0))), (q24_1, .inr (0, [.ref u28_1, .int 0])), (u28_1, .inl (K.2.1, 17, .inl (fun _ => 0))), (q24_2, .inr (0, [.ref u28_2, .int 0])), (u28_2, .inl (K.2.1, 17, .inl (fun _ => 0))), (q24_3, .inr (0, [.ref u28_3, .int 0])), (u28_3, .inl (K.2.1, 17, .inl (fun _ => 0)))]) hX 1 8 rfl rfl (by omega) (by omega) rfl dX1_init_31 ?_
  refine g_iinc (pc := 32) (z := 0) (v := (nI 4)) (lv' := [(3, .int (nI 4)), (0, .ref h), (1, .int (nI pol)), (2, .int (nI c))]) hX dX1_init_32 rfl (by first | exact nI_add _ _ | rfl) (by decide) rfl ?_
  refine g_goto (pc := 35) (tgt := 14) hX dX1_init_35 (by decide) ?_
  refine g_iload_n (pc := 14) hX dX1_init_14 rfl 0 rfl ?_
  refine g_iconst (pc := 15) (v := (nI 4)) hX dX1_init_15 (by decide) ?_
  refine g_icmpN_ge (pc := 16) (tgt := 38) hX (by omega) (by omega) dX1_init_16 (by decide) (fun c16_4 => ?_) (fun c16_4 => absurd c16_4 (by omega))
  refine g_aload_n (pc := 38) hX dX1_init_38 rfl 1 rfl ?_
  refine g_iload_n (pc := 39) hX dX1_init_39 rfl 2 rfl ?_
  refine g_put (pc := 40) (C := RX1) (T := TX1) (N := 9) (ci := 1) (v := .int (nI pol)) (ws' := [(h, .inr (1, [.ref q6, .int (nI pol), .int 0, .int 0, .long 0, .long 0, .int 0, .int 0, .int 0])), (q6, .inl (K.2.2.2, 4, .inr (.inr (.inr (.inr (va_up (va_up (va_up (va_up (fun _ => none) 0 (some q24)) 1 (some q24_1)) 2 (some q24_2)) 3 (some q24_3))))))), (q24, .inr (0, [.ref u28_0, .int 0])), (u28_0, .inl (K.2.1, 17, .inl (fun _ => 0))), (q24_1, .inr (0, [.ref u28_1, .int 0])), (u28_1, .inl (K.2.1, 17, .inl (fun _ => 0))), (q24_2, .inr (0, [.ref u28_2, .int 0])), (u28_2, .inl (K.2.1, 17, .inl (fun _ => 0))), (q24_3, .inr (0, [.ref u28_3, .int 0])), (u28_3, .inl (K.2.1, 17, .inl (fun _ => 0)))]) hX inX1_init_X1 tyX1 tyX1_ok nmX1 0 rfl rfl 1 (by decide) flX1_init_18 rfl rfl rfl rfl (Nat.le_of_ble_eq_true rfl) rfl dX1_init_40 ?_
  refine g_aload_n (pc := 43) hX dX1_init_43 rfl 1 rfl ?_
  refine g_iload_n (pc := 44) hX dX1_init_44 rfl 3 rfl ?_
  refine g_put (pc := 45) (C := RX1) (T := TX1) (N := 9) (ci := 1) (v := .int (nI c)) (ws' := [(h, .inr (1, [.ref q6, .int (nI pol), .int (nI c), .int 0, .long 0, .long 0, .int 0, .int 0, .int 0])), (q6, .inl (K.2.2.2, 4, .inr (.inr (.inr (.inr (va_up (va_up (va_up (va_up (fun _ => none) 0 (some q24)) 1 (some q24_1)) 2 (some q24_2)) 3 (some q24_3))))))), (q24, .inr (0, [.ref u28_0, .int 0])), (u28_0, .inl (K.2.1, 17, .inl (fun _ => 0))), (q24_1, .inr (0, [.ref u28_1, .int 0])), (u28_1, .inl (K.2.1, 17, .inl (fun _ => 0))), (q24_2, .inr (0, [.ref u28_2, .int 0])), (u28_2, .inl (K.2.1, 17, .inl (fun _ => 0))), (q24_3, .inr (0, [.ref u28_3, .int 0])), (u28_3, .inl (K.2.1, 17, .inl (fun _ => 0)))]) hX inX1_init_X1 tyX1 tyX1_ok nmX1 0 rfl rfl 2 (by decide) flX1_init_22 rfl rfl rfl rfl (Nat.le_of_ble_eq_true rfl) rfl dX1_init_45 ?_
  exact hret (u := adl [q6, q24, u28_0, q24_1, u28_1, q24_2, u28_2, q24_3, u28_3]) dX1_init_48 trivial rfl
abbrev rmX1_restart : Room := { frames := 1, cells := 0, slots := 0, locals := 20 }
theorem flX1_restart_13 : Cond.fieldLink RX1 13 "TwoTierCache$Tier" "rows" "[LTwoTierCache$PageRow;" ∈ wsX1_restart := by decide +kernel
theorem inX1_restart_X1 : ∀ w ∈ u_ws RX1 TX1 9, w ∈ wsX1_restart := by decide +kernel
theorem nX0_clearV : yX0_clear.cls = RX0 ∧ yX0_clear.cls ≠ "java/lang/invoke/MethodHandle" ∧ yX0_clear.cls ≠ "java/lang/invoke/VarHandle" ∧ (parseMethodDescriptor yX0_clear.desc).map (fun d => d.parameters.length) = some 0 := by decide +kernel
theorem flX1_restart_18 : Cond.fieldLink RX1 18 "TwoTierCache$Tier" "policy" "I" ∈ wsX1_restart := by decide +kernel
theorem flX1_restart_22 : Cond.fieldLink RX1 22 "TwoTierCache$Tier" "capacity" "I" ∈ wsX1_restart := by decide +kernel
theorem flX1_restart_28 : Cond.fieldLink RX1 28 "TwoTierCache$Tier" "goal" "I" ∈ wsX1_restart := by decide +kernel
theorem flX1_restart_31 : Cond.fieldLink RX1 31 "TwoTierCache$Tier" "dirtyPages" "J" ∈ wsX1_restart := by decide +kernel
theorem flX1_restart_35 : Cond.fieldLink RX1 35 "TwoTierCache$Tier" "markedPages" "J" ∈ wsX1_restart := by decide +kernel
theorem flX1_restart_38 : Cond.fieldLink RX1 38 "TwoTierCache$Tier" "hits" "I" ∈ wsX1_restart := by decide +kernel
theorem flX1_restart_41 : Cond.fieldLink RX1 41 "TwoTierCache$Tier" "misses" "I" ∈ wsX1_restart := by decide +kernel
theorem flX1_restart_44 : Cond.fieldLink RX1 44 "TwoTierCache$Tier" "dirtyVictims" "I" ∈ wsX1_restart := by decide +kernel
set_option maxHeartbeats 4000000 in
set_option maxRecDepth 100000 in
/-- restart -/
theorem c_X1_restart (l : Launch) (K : gT) (h : Nat) (ad : Nat → Nat) (pol c g : Nat) (db mb : Int64) (hi mi dv : Int32) (a b d e : List Nat) (f0 f1 f2 f3 : Nat → Int32) (pol2 c2 : Nat) : Cv l yX1_restart wsX1_restart rmX1_restart K [.ref h, .int (nI pol2), .int (nI c2)] (tW K h ad pol c g db mb hi mi dv a b d e f0 f1 f2 f3) (fun (u : Unit) => True) (fun u => tW K h ad pol2 c2 0 0 0 0 0 0 ([]) ([]) ([]) ([]) f0 f1 f2 f3) 0 0 := by
  refine m_v (cc := cX1_restart) (own := RX1) (maxL := 4) (lv0 := [(0, .ref h), (1, .int (nI pol2)), (2, .int (nI c2))]) (by decide) rfl rfl (Nat.le_of_ble_eq_true rfl) rfl ?_
  intro X hX hin hret
  refine g_ws (ws' := [(h, .inr (1, [.ref (ad 0), .int (nI pol), .int (nI c), .int (nI g), .long db, .long mb, .int hi, .int mi, .int dv])), (ad 0, .inl (K.2.2.2, 4, .inr (.inr (.inr (.inr (rw4 (ad 1) (ad 3) (ad 5) (ad 7))))))), (ad 1, .inr (0, [.ref (ad 2), .int (nI a.length)])), (ad 2, .inl (K.2.1, 17, .inl f0)), (ad 3, .inr (0, [.ref (ad 4), .int (nI b.length)])), (ad 4, .inl (K.2.1, 17, .inl f1)), (ad 5, .inr (0, [.ref (ad 6), .int (nI d.length)])), (ad 6, .inl (K.2.1, 17, .inl f2)), (ad 7, .inr (0, [.ref (ad 8), .int (nI e.length)])), (ad 8, .inl (K.2.1, 17, .inl f3))]) rfl ?_
  refine g_iconst (pc := 0) (v := (nI 0)) hX dX1_restart_0 (by decide) ?_
  refine g_istore_n (pc := 1) (lv' := [(3, .int (nI 0)), (0, .ref h), (1, .int (nI pol2)), (2, .int (nI c2))]) hX dX1_restart_1 rfl (by decide) rfl ?_
  refine g_iload_n (pc := 2) hX dX1_restart_2 rfl 0 rfl ?_
  refine g_iconst (pc := 3) (v := (nI 4)) hX dX1_restart_3 (by decide) ?_
  refine g_icmpN_ge (pc := 4) (tgt := 22) hX (by omega) (by omega) dX1_restart_4 (by decide) (fun c4 => absurd c4 (by omega)) (fun c4 => ?_)
  refine g_aload_n (pc := 7) hX dX1_restart_7 rfl 1 rfl ?_
  refine g_get (pc := 8) (C := RX1) (T := TX1) (N := 9) (ci := 1) (v := .ref (ad 0)) hX inX1_restart_X1 0 rfl rfl 0 (by decide) flX1_restart_13 rfl rfl dX1_restart_8 ?_
  refine g_iload_n (pc := 11) hX dX1_restart_11 rfl 0 rfl ?_
  refine g_aldq (pc := 12) (v := .ref (ad 1)) hX 1 rfl (by omega) (by omega) rfl dX1_restart_12 ?_
  refine g_cv (pc := 13) hX (wc := [(ad 1, .inr (0, [.ref (ad 2), .int (nI a.length)])), (ad 2, .inl (K.2.1, 17, .inl f0))]) (wr := [(h, .inr (1, [.ref (ad 0), .int (nI pol), .int (nI c), .int (nI g), .long db, .long mb, .int hi, .int mi, .int dv])), (ad 0, .inl (K.2.2.2, 4, .inr (.inr (.inr (.inr (rw4 (ad 1) (ad 3) (ad 5) (ad 7))))))), (ad 3, .inr (0, [.ref (ad 4), .int (nI b.length)])), (ad 4, .inl (K.2.1, 17, .inl f1)), (ad 5, .inr (0, [.ref (ad 6), .int (nI d.length)])), (ad 6, .inl (K.2.1, 17, .inl f2)), (ad 7, .inr (0, [.ref (ad 8), .int (nI e.length)])), (ad 8, .inl (K.2.1, 17, .inl f3))]) (Wd' := fun u => [(h, .inr (1, [.ref (ad 0), .int (nI pol), .int (nI c), .int (nI g), .long db, .long mb, .int hi, .int mi, .int dv])), (ad 0, .inl (K.2.2.2, 4, .inr (.inr (.inr (.inr (rw4 (ad 1) (ad 3) (ad 5) (ad 7))))))), (ad 1, .inr (0, [.ref (ad 2), .int (nI (([] : List Nat).length))])), (ad 2, .inl (K.2.1, 17, .inl f0)), (ad 3, .inr (0, [.ref (ad 4), .int (nI b.length)])), (ad 4, .inl (K.2.1, 17, .inl f1)), (ad 5, .inr (0, [.ref (ad 6), .int (nI d.length)])), (ad 6, .inl (K.2.1, 17, .inl f2)), (ad 7, .inr (0, [.ref (ad 8), .int (nI e.length)])), (ad 8, .inl (K.2.1, 17, .inl f3))]) (g_goV (pc := 13) hX (As := []) (stk := []) (wc := [(ad 1, .inr (0, [.ref (ad 2), .int (nI a.length)])), (ad 2, .inl (K.2.1, 17, .inl f0))]) (c_X0_clear l K (ad 1) (ad 2) a f0) rfl rfl rfl gX1_restart_X0_clear nX0_clearV rfl 0 rfl ⟨(Nat.le_of_ble_eq_true rfl), (Nat.le_of_ble_eq_true rfl)⟩ [2, 3] rfl rfl rfl (Nat.le_of_ble_eq_true rfl) dX1_restart_13 ⟨(Nat.le_of_ble_eq_true rfl), (Nat.le_of_ble_eq_true rfl)⟩) [2, 3] [0, 1, 4, 5, 6, 7, 8, 9] [0, 1, 8, 9, 2, 3, 4, 5, 6, 7] rfl rfl rfl (by decide) rfl (fun _ => rfl) (fun u h13 => ?_)
  obtain _ := h13
  refine g_iinc (pc := 16) (z := 0) (v := (nI 1)) (lv' := [(3, .int (nI 1)), (0, .ref h), (1, .int (nI pol2)), (2, .int (nI c2))]) hX dX1_restart_16 rfl (by first | exact nI_add _ _ | rfl) (by decide) rfl ?_
  refine g_goto (pc := 19) (tgt := 2) hX dX1_restart_19 (by decide) ?_
  refine g_iload_n (pc := 2) hX dX1_restart_2 rfl 0 rfl ?_
  refine g_iconst (pc := 3) (v := (nI 4)) hX dX1_restart_3 (by decide) ?_
  refine g_icmpN_ge (pc := 4) (tgt := 22) hX (by omega) (by omega) dX1_restart_4 (by decide) (fun c4_1 => absurd c4_1 (by omega)) (fun c4_1 => ?_)
  refine g_aload_n (pc := 7) hX dX1_restart_7 rfl 1 rfl ?_
  refine g_get (pc := 8) (C := RX1) (T := TX1) (N := 9) (ci := 1) (v := .ref (ad 0)) hX inX1_restart_X1 0 rfl rfl 0 (by decide) flX1_restart_13 rfl rfl dX1_restart_8 ?_
  refine g_iload_n (pc := 11) hX dX1_restart_11 rfl 0 rfl ?_
  refine g_aldq (pc := 12) (v := .ref (ad 3)) hX 1 rfl (by omega) (by omega) rfl dX1_restart_12 ?_
  refine g_cv (pc := 13) hX (wc := [(ad 3, .inr (0, [.ref (ad 4), .int (nI b.length)])), (ad 4, .inl (K.2.1, 17, .inl f1))]) (wr := [(h, .inr (1, [.ref (ad 0), .int (nI pol), .int (nI c), .int (nI g), .long db, .long mb, .int hi, .int mi, .int dv])), (ad 0, .inl (K.2.2.2, 4, .inr (.inr (.inr (.inr (rw4 (ad 1) (ad 3) (ad 5) (ad 7))))))), (ad 1, .inr (0, [.ref (ad 2), .int (nI (([] : List Nat).length))])), (ad 2, .inl (K.2.1, 17, .inl f0)), (ad 5, .inr (0, [.ref (ad 6), .int (nI d.length)])), (ad 6, .inl (K.2.1, 17, .inl f2)), (ad 7, .inr (0, [.ref (ad 8), .int (nI e.length)])), (ad 8, .inl (K.2.1, 17, .inl f3))]) (Wd' := fun u => [(h, .inr (1, [.ref (ad 0), .int (nI pol), .int (nI c), .int (nI g), .long db, .long mb, .int hi, .int mi, .int dv])), (ad 0, .inl (K.2.2.2, 4, .inr (.inr (.inr (.inr (rw4 (ad 1) (ad 3) (ad 5) (ad 7))))))), (ad 1, .inr (0, [.ref (ad 2), .int (nI (([] : List Nat).length))])), (ad 2, .inl (K.2.1, 17, .inl f0)), (ad 3, .inr (0, [.ref (ad 4), .int (nI (([] : List Nat).length))])), (ad 4, .inl (K.2.1, 17, .inl f1)), (ad 5, .inr (0, [.ref (ad 6), .int (nI d.length)])), (ad 6, .inl (K.2.1, 17, .inl f2)), (ad 7, .inr (0, [.ref (ad 8), .int (nI e.length)])), (ad 8, .inl (K.2.1, 17, .inl f3))]) (g_goV (pc := 13) hX (As := []) (stk := []) (wc := [(ad 3, .inr (0, [.ref (ad 4), .int (nI b.length)])), (ad 4, .inl (K.2.1, 17, .inl f1))]) (c_X0_clear l K (ad 3) (ad 4) b f1) rfl rfl rfl gX1_restart_X0_clear nX0_clearV rfl 0 rfl ⟨(Nat.le_of_ble_eq_true rfl), (Nat.le_of_ble_eq_true rfl)⟩ [4, 5] rfl rfl rfl (Nat.le_of_ble_eq_true rfl) dX1_restart_13 ⟨(Nat.le_of_ble_eq_true rfl), (Nat.le_of_ble_eq_true rfl)⟩) [4, 5] [0, 1, 2, 3, 6, 7, 8, 9] [0, 1, 2, 3, 8, 9, 4, 5, 6, 7] rfl rfl rfl (by decide) rfl (fun _ => rfl) (fun u h13 => ?_)
  obtain _ := h13
  refine g_iinc (pc := 16) (z := 0) (v := (nI 2)) (lv' := [(3, .int (nI 2)), (0, .ref h), (1, .int (nI pol2)), (2, .int (nI c2))]) hX dX1_restart_16 rfl (by first | exact nI_add _ _ | rfl) (by decide) rfl ?_
  refine g_goto (pc := 19) (tgt := 2) hX dX1_restart_19 (by decide) ?_
  refine g_iload_n (pc := 2) hX dX1_restart_2 rfl 0 rfl ?_
  refine g_iconst (pc := 3) (v := (nI 4)) hX dX1_restart_3 (by decide) ?_
  refine g_icmpN_ge (pc := 4) (tgt := 22) hX (by omega) (by omega) dX1_restart_4 (by decide) (fun c4_2 => absurd c4_2 (by omega)) (fun c4_2 => ?_)
  refine g_aload_n (pc := 7) hX dX1_restart_7 rfl 1 rfl ?_
  refine g_get (pc := 8) (C := RX1) (T := TX1) (N := 9) (ci := 1) (v := .ref (ad 0)) hX inX1_restart_X1 0 rfl rfl 0 (by decide) flX1_restart_13 rfl rfl dX1_restart_8 ?_
  refine g_iload_n (pc := 11) hX dX1_restart_11 rfl 0 rfl ?_
  refine g_aldq (pc := 12) (v := .ref (ad 5)) hX 1 rfl (by omega) (by omega) rfl dX1_restart_12 ?_
  refine g_cv (pc := 13) hX (wc := [(ad 5, .inr (0, [.ref (ad 6), .int (nI d.length)])), (ad 6, .inl (K.2.1, 17, .inl f2))]) (wr := [(h, .inr (1, [.ref (ad 0), .int (nI pol), .int (nI c), .int (nI g), .long db, .long mb, .int hi, .int mi, .int dv])), (ad 0, .inl (K.2.2.2, 4, .inr (.inr (.inr (.inr (rw4 (ad 1) (ad 3) (ad 5) (ad 7))))))), (ad 1, .inr (0, [.ref (ad 2), .int (nI (([] : List Nat).length))])), (ad 2, .inl (K.2.1, 17, .inl f0)), (ad 3, .inr (0, [.ref (ad 4), .int (nI (([] : List Nat).length))])), (ad 4, .inl (K.2.1, 17, .inl f1)), (ad 7, .inr (0, [.ref (ad 8), .int (nI e.length)])), (ad 8, .inl (K.2.1, 17, .inl f3))]) (Wd' := fun u => [(h, .inr (1, [.ref (ad 0), .int (nI pol), .int (nI c), .int (nI g), .long db, .long mb, .int hi, .int mi, .int dv])), (ad 0, .inl (K.2.2.2, 4, .inr (.inr (.inr (.inr (rw4 (ad 1) (ad 3) (ad 5) (ad 7))))))), (ad 1, .inr (0, [.ref (ad 2), .int (nI (([] : List Nat).length))])), (ad 2, .inl (K.2.1, 17, .inl f0)), (ad 3, .inr (0, [.ref (ad 4), .int (nI (([] : List Nat).length))])), (ad 4, .inl (K.2.1, 17, .inl f1)), (ad 5, .inr (0, [.ref (ad 6), .int (nI (([] : List Nat).length))])), (ad 6, .inl (K.2.1, 17, .inl f2)), (ad 7, .inr (0, [.ref (ad 8), .int (nI e.length)])), (ad 8, .inl (K.2.1, 17, .inl f3))]) (g_goV (pc := 13) hX (As := []) (stk := []) (wc := [(ad 5, .inr (0, [.ref (ad 6), .int (nI d.length)])), (ad 6, .inl (K.2.1, 17, .inl f2))]) (c_X0_clear l K (ad 5) (ad 6) d f2) rfl rfl rfl gX1_restart_X0_clear nX0_clearV rfl 0 rfl ⟨(Nat.le_of_ble_eq_true rfl), (Nat.le_of_ble_eq_true rfl)⟩ [6, 7] rfl rfl rfl (Nat.le_of_ble_eq_true rfl) dX1_restart_13 ⟨(Nat.le_of_ble_eq_true rfl), (Nat.le_of_ble_eq_true rfl)⟩) [6, 7] [0, 1, 2, 3, 4, 5, 8, 9] [0, 1, 2, 3, 4, 5, 8, 9, 6, 7] rfl rfl rfl (by decide) rfl (fun _ => rfl) (fun u h13 => ?_)
  obtain _ := h13
  refine g_iinc (pc := 16) (z := 0) (v := (nI 3)) (lv' := [(3, .int (nI 3)), (0, .ref h), (1, .int (nI pol2)), (2, .int (nI c2))]) hX dX1_restart_16 rfl (by first | exact nI_add _ _ | rfl) (by decide) rfl ?_
  refine g_goto (pc := 19) (tgt := 2) hX dX1_restart_19 (by decide) ?_
  refine g_iload_n (pc := 2) hX dX1_restart_2 rfl 0 rfl ?_
  refine g_iconst (pc := 3) (v := (nI 4)) hX dX1_restart_3 (by decide) ?_
  refine g_icmpN_ge (pc := 4) (tgt := 22) hX (by omega) (by omega) dX1_restart_4 (by decide) (fun c4_3 => absurd c4_3 (by omega)) (fun c4_3 => ?_)
  refine g_aload_n (pc := 7) hX dX1_restart_7 rfl 1 rfl ?_
  refine g_get (pc := 8) (C := RX1) (T := TX1) (N := 9) (ci := 1) (v := .ref (ad 0)) hX inX1_restart_X1 0 rfl rfl 0 (by decide) flX1_restart_13 rfl rfl dX1_restart_8 ?_
  refine g_iload_n (pc := 11) hX dX1_restart_11 rfl 0 rfl ?_
  refine g_aldq (pc := 12) (v := .ref (ad 7)) hX 1 rfl (by omega) (by omega) rfl dX1_restart_12 ?_
  refine g_cv (pc := 13) hX (wc := [(ad 7, .inr (0, [.ref (ad 8), .int (nI e.length)])), (ad 8, .inl (K.2.1, 17, .inl f3))]) (wr := [(h, .inr (1, [.ref (ad 0), .int (nI pol), .int (nI c), .int (nI g), .long db, .long mb, .int hi, .int mi, .int dv])), (ad 0, .inl (K.2.2.2, 4, .inr (.inr (.inr (.inr (rw4 (ad 1) (ad 3) (ad 5) (ad 7))))))), (ad 1, .inr (0, [.ref (ad 2), .int (nI (([] : List Nat).length))])), (ad 2, .inl (K.2.1, 17, .inl f0)), (ad 3, .inr (0, [.ref (ad 4), .int (nI (([] : List Nat).length))])), (ad 4, .inl (K.2.1, 17, .inl f1)), (ad 5, .inr (0, [.ref (ad 6), .int (nI (([] : List Nat).length))])), (ad 6, .inl (K.2.1, 17, .inl f2))]) (Wd' := fun u => [(h, .inr (1, [.ref (ad 0), .int (nI pol), .int (nI c), .int (nI g), .long db, .long mb, .int hi, .int mi, .int dv])), (ad 0, .inl (K.2.2.2, 4, .inr (.inr (.inr (.inr (rw4 (ad 1) (ad 3) (ad 5) (ad 7))))))), (ad 1, .inr (0, [.ref (ad 2), .int (nI (([] : List Nat).length))])), (ad 2, .inl (K.2.1, 17, .inl f0)), (ad 3, .inr (0, [.ref (ad 4), .int (nI (([] : List Nat).length))])), (ad 4, .inl (K.2.1, 17, .inl f1)), (ad 5, .inr (0, [.ref (ad 6), .int (nI (([] : List Nat).length))])), (ad 6, .inl (K.2.1, 17, .inl f2)), (ad 7, .inr (0, [.ref (ad 8), .int (nI (([] : List Nat).length))])), (ad 8, .inl (K.2.1, 17, .inl f3))]) (g_goV (pc := 13) hX (As := []) (stk := []) (wc := [(ad 7, .inr (0, [.ref (ad 8), .int (nI e.length)])), (ad 8, .inl (K.2.1, 17, .inl f3))]) (c_X0_clear l K (ad 7) (ad 8) e f3) rfl rfl rfl gX1_restart_X0_clear nX0_clearV rfl 0 rfl ⟨(Nat.le_of_ble_eq_true rfl), (Nat.le_of_ble_eq_true rfl)⟩ [8, 9] rfl rfl rfl (Nat.le_of_ble_eq_true rfl) dX1_restart_13 ⟨(Nat.le_of_ble_eq_true rfl), (Nat.le_of_ble_eq_true rfl)⟩) [8, 9] [0, 1, 2, 3, 4, 5, 6, 7] [0, 1, 2, 3, 4, 5, 6, 7, 8, 9] rfl rfl rfl (by decide) rfl (fun _ => rfl) (fun u h13 => ?_)
  obtain _ := h13
  refine g_iinc (pc := 16) (z := 0) (v := (nI 4)) (lv' := [(3, .int (nI 4)), (0, .ref h), (1, .int (nI pol2)), (2, .int (nI c2))]) hX dX1_restart_16 rfl (by first | exact nI_add _ _ | rfl) (by decide) rfl ?_
  refine g_goto (pc := 19) (tgt := 2) hX dX1_restart_19 (by decide) ?_
  refine g_iload_n (pc := 2) hX dX1_restart_2 rfl 0 rfl ?_
  refine g_iconst (pc := 3) (v := (nI 4)) hX dX1_restart_3 (by decide) ?_
  refine g_icmpN_ge (pc := 4) (tgt := 22) hX (by omega) (by omega) dX1_restart_4 (by decide) (fun c4_4 => ?_) (fun c4_4 => absurd c4_4 (by omega))
  refine g_aload_n (pc := 22) hX dX1_restart_22 rfl 1 rfl ?_
  refine g_iload_n (pc := 23) hX dX1_restart_23 rfl 2 rfl ?_
  refine g_put (pc := 24) (C := RX1) (T := TX1) (N := 9) (ci := 1) (v := .int (nI pol2)) (ws' := [(h, .inr (1, [.ref (ad 0), .int (nI pol2), .int (nI c), .int (nI g), .long db, .long mb, .int hi, .int mi, .int dv])), (ad 0, .inl (K.2.2.2, 4, .inr (.inr (.inr (.inr (rw4 (ad 1) (ad 3) (ad 5) (ad 7))))))), (ad 1, .inr (0, [.ref (ad 2), .int (nI (([] : List Nat).length))])), (ad 2, .inl (K.2.1, 17, .inl f0)), (ad 3, .inr (0, [.ref (ad 4), .int (nI (([] : List Nat).length))])), (ad 4, .inl (K.2.1, 17, .inl f1)), (ad 5, .inr (0, [.ref (ad 6), .int (nI (([] : List Nat).length))])), (ad 6, .inl (K.2.1, 17, .inl f2)), (ad 7, .inr (0, [.ref (ad 8), .int (nI (([] : List Nat).length))])), (ad 8, .inl (K.2.1, 17, .inl f3))]) hX inX1_restart_X1 tyX1 tyX1_ok nmX1 0 rfl rfl 1 (by decide) flX1_restart_18 rfl rfl rfl rfl (Nat.le_of_ble_eq_true rfl) rfl dX1_restart_24 ?_
  refine g_aload_n (pc := 27) hX dX1_restart_27 rfl 1 rfl ?_
  refine g_iload_n (pc := 28) hX dX1_restart_28 rfl 3 rfl ?_
  refine g_put (pc := 29) (C := RX1) (T := TX1) (N := 9) (ci := 1) (v := .int (nI c2)) (ws' := [(h, .inr (1, [.ref (ad 0), .int (nI pol2), .int (nI c2), .int (nI g), .long db, .long mb, .int hi, .int mi, .int dv])), (ad 0, .inl (K.2.2.2, 4, .inr (.inr (.inr (.inr (rw4 (ad 1) (ad 3) (ad 5) (ad 7))))))), (ad 1, .inr (0, [.ref (ad 2), .int (nI (([] : List Nat).length))])), (ad 2, .inl (K.2.1, 17, .inl f0)), (ad 3, .inr (0, [.ref (ad 4), .int (nI (([] : List Nat).length))])), (ad 4, .inl (K.2.1, 17, .inl f1)), (ad 5, .inr (0, [.ref (ad 6), .int (nI (([] : List Nat).length))])), (ad 6, .inl (K.2.1, 17, .inl f2)), (ad 7, .inr (0, [.ref (ad 8), .int (nI (([] : List Nat).length))])), (ad 8, .inl (K.2.1, 17, .inl f3))]) hX inX1_restart_X1 tyX1 tyX1_ok nmX1 0 rfl rfl 2 (by decide) flX1_restart_22 rfl rfl rfl rfl (Nat.le_of_ble_eq_true rfl) rfl dX1_restart_29 ?_
  refine g_aload_n (pc := 32) hX dX1_restart_32 rfl 1 rfl ?_
  refine g_iconst (pc := 33) (v := (nI 0)) hX dX1_restart_33 (by decide) ?_
  refine g_put (pc := 34) (C := RX1) (T := TX1) (N := 9) (ci := 1) (v := .int (nI 0)) (ws' := [(h, .inr (1, [.ref (ad 0), .int (nI pol2), .int (nI c2), .int (nI 0), .long db, .long mb, .int hi, .int mi, .int dv])), (ad 0, .inl (K.2.2.2, 4, .inr (.inr (.inr (.inr (rw4 (ad 1) (ad 3) (ad 5) (ad 7))))))), (ad 1, .inr (0, [.ref (ad 2), .int (nI (([] : List Nat).length))])), (ad 2, .inl (K.2.1, 17, .inl f0)), (ad 3, .inr (0, [.ref (ad 4), .int (nI (([] : List Nat).length))])), (ad 4, .inl (K.2.1, 17, .inl f1)), (ad 5, .inr (0, [.ref (ad 6), .int (nI (([] : List Nat).length))])), (ad 6, .inl (K.2.1, 17, .inl f2)), (ad 7, .inr (0, [.ref (ad 8), .int (nI (([] : List Nat).length))])), (ad 8, .inl (K.2.1, 17, .inl f3))]) hX inX1_restart_X1 tyX1 tyX1_ok nmX1 0 rfl rfl 3 (by decide) flX1_restart_28 rfl rfl rfl rfl (Nat.le_of_ble_eq_true rfl) rfl dX1_restart_34 ?_
  refine g_aload_n (pc := 37) hX dX1_restart_37 rfl 1 rfl ?_
  refine g_lconst (pc := 38) (v := 0) hX dX1_restart_38 (by decide) ?_
  refine g_put (pc := 39) (C := RX1) (T := TX1) (N := 9) (ci := 1) (v := .long 0) (ws' := [(h, .inr (1, [.ref (ad 0), .int (nI pol2), .int (nI c2), .int (nI 0), .long 0, .long mb, .int hi, .int mi, .int dv])), (ad 0, .inl (K.2.2.2, 4, .inr (.inr (.inr (.inr (rw4 (ad 1) (ad 3) (ad 5) (ad 7))))))), (ad 1, .inr (0, [.ref (ad 2), .int (nI (([] : List Nat).length))])), (ad 2, .inl (K.2.1, 17, .inl f0)), (ad 3, .inr (0, [.ref (ad 4), .int (nI (([] : List Nat).length))])), (ad 4, .inl (K.2.1, 17, .inl f1)), (ad 5, .inr (0, [.ref (ad 6), .int (nI (([] : List Nat).length))])), (ad 6, .inl (K.2.1, 17, .inl f2)), (ad 7, .inr (0, [.ref (ad 8), .int (nI (([] : List Nat).length))])), (ad 8, .inl (K.2.1, 17, .inl f3))]) hX inX1_restart_X1 tyX1 tyX1_ok nmX1 0 rfl rfl 4 (by decide) flX1_restart_31 rfl rfl rfl rfl (Nat.le_of_ble_eq_true rfl) rfl dX1_restart_39 ?_
  refine g_aload_n (pc := 42) hX dX1_restart_42 rfl 1 rfl ?_
  refine g_lconst (pc := 43) (v := 0) hX dX1_restart_43 (by decide) ?_
  refine g_put (pc := 44) (C := RX1) (T := TX1) (N := 9) (ci := 1) (v := .long 0) (ws' := [(h, .inr (1, [.ref (ad 0), .int (nI pol2), .int (nI c2), .int (nI 0), .long 0, .long 0, .int hi, .int mi, .int dv])), (ad 0, .inl (K.2.2.2, 4, .inr (.inr (.inr (.inr (rw4 (ad 1) (ad 3) (ad 5) (ad 7))))))), (ad 1, .inr (0, [.ref (ad 2), .int (nI (([] : List Nat).length))])), (ad 2, .inl (K.2.1, 17, .inl f0)), (ad 3, .inr (0, [.ref (ad 4), .int (nI (([] : List Nat).length))])), (ad 4, .inl (K.2.1, 17, .inl f1)), (ad 5, .inr (0, [.ref (ad 6), .int (nI (([] : List Nat).length))])), (ad 6, .inl (K.2.1, 17, .inl f2)), (ad 7, .inr (0, [.ref (ad 8), .int (nI (([] : List Nat).length))])), (ad 8, .inl (K.2.1, 17, .inl f3))]) hX inX1_restart_X1 tyX1 tyX1_ok nmX1 0 rfl rfl 5 (by decide) flX1_restart_35 rfl rfl rfl rfl (Nat.le_of_ble_eq_true rfl) rfl dX1_restart_44 ?_
  refine g_aload_n (pc := 47) hX dX1_restart_47 rfl 1 rfl ?_
  refine g_iconst (pc := 48) (v := (nI 0)) hX dX1_restart_48 (by decide) ?_
  refine g_put (pc := 49) (C := RX1) (T := TX1) (N := 9) (ci := 1) (v := .int (nI 0)) (ws' := [(h, .inr (1, [.ref (ad 0), .int (nI pol2), .int (nI c2), .int (nI 0), .long 0, .long 0, .int (nI 0), .int mi, .int dv])), (ad 0, .inl (K.2.2.2, 4, .inr (.inr (.inr (.inr (rw4 (ad 1) (ad 3) (ad 5) (ad 7))))))), (ad 1, .inr (0, [.ref (ad 2), .int (nI (([] : List Nat).length))])), (ad 2, .inl (K.2.1, 17, .inl f0)), (ad 3, .inr (0, [.ref (ad 4), .int (nI (([] : List Nat).length))])), (ad 4, .inl (K.2.1, 17, .inl f1)), (ad 5, .inr (0, [.ref (ad 6), .int (nI (([] : List Nat).length))])), (ad 6, .inl (K.2.1, 17, .inl f2)), (ad 7, .inr (0, [.ref (ad 8), .int (nI (([] : List Nat).length))])), (ad 8, .inl (K.2.1, 17, .inl f3))]) hX inX1_restart_X1 tyX1 tyX1_ok nmX1 0 rfl rfl 6 (by decide) flX1_restart_38 rfl rfl rfl rfl (Nat.le_of_ble_eq_true rfl) rfl dX1_restart_49 ?_
  refine g_aload_n (pc := 52) hX dX1_restart_52 rfl 1 rfl ?_
  refine g_iconst (pc := 53) (v := (nI 0)) hX dX1_restart_53 (by decide) ?_
  refine g_put (pc := 54) (C := RX1) (T := TX1) (N := 9) (ci := 1) (v := .int (nI 0)) (ws' := [(h, .inr (1, [.ref (ad 0), .int (nI pol2), .int (nI c2), .int (nI 0), .long 0, .long 0, .int (nI 0), .int (nI 0), .int dv])), (ad 0, .inl (K.2.2.2, 4, .inr (.inr (.inr (.inr (rw4 (ad 1) (ad 3) (ad 5) (ad 7))))))), (ad 1, .inr (0, [.ref (ad 2), .int (nI (([] : List Nat).length))])), (ad 2, .inl (K.2.1, 17, .inl f0)), (ad 3, .inr (0, [.ref (ad 4), .int (nI (([] : List Nat).length))])), (ad 4, .inl (K.2.1, 17, .inl f1)), (ad 5, .inr (0, [.ref (ad 6), .int (nI (([] : List Nat).length))])), (ad 6, .inl (K.2.1, 17, .inl f2)), (ad 7, .inr (0, [.ref (ad 8), .int (nI (([] : List Nat).length))])), (ad 8, .inl (K.2.1, 17, .inl f3))]) hX inX1_restart_X1 tyX1 tyX1_ok nmX1 0 rfl rfl 7 (by decide) flX1_restart_41 rfl rfl rfl rfl (Nat.le_of_ble_eq_true rfl) rfl dX1_restart_54 ?_
  refine g_aload_n (pc := 57) hX dX1_restart_57 rfl 1 rfl ?_
  refine g_iconst (pc := 58) (v := (nI 0)) hX dX1_restart_58 (by decide) ?_
  refine g_put (pc := 59) (C := RX1) (T := TX1) (N := 9) (ci := 1) (v := .int (nI 0)) (ws' := [(h, .inr (1, [.ref (ad 0), .int (nI pol2), .int (nI c2), .int (nI 0), .long 0, .long 0, .int (nI 0), .int (nI 0), .int (nI 0)])), (ad 0, .inl (K.2.2.2, 4, .inr (.inr (.inr (.inr (rw4 (ad 1) (ad 3) (ad 5) (ad 7))))))), (ad 1, .inr (0, [.ref (ad 2), .int (nI (([] : List Nat).length))])), (ad 2, .inl (K.2.1, 17, .inl f0)), (ad 3, .inr (0, [.ref (ad 4), .int (nI (([] : List Nat).length))])), (ad 4, .inl (K.2.1, 17, .inl f1)), (ad 5, .inr (0, [.ref (ad 6), .int (nI (([] : List Nat).length))])), (ad 6, .inl (K.2.1, 17, .inl f2)), (ad 7, .inr (0, [.ref (ad 8), .int (nI (([] : List Nat).length))])), (ad 8, .inl (K.2.1, 17, .inl f3))]) hX inX1_restart_X1 tyX1 tyX1_ok nmX1 0 rfl rfl 8 (by decide) flX1_restart_44 rfl rfl rfl rfl (Nat.le_of_ble_eq_true rfl) rfl dX1_restart_59 ?_
  exact hret (u := ()) dX1_restart_62 trivial rfl
abbrev rmX1_holds : Room := { frames := 2, cells := 0, slots := 0, locals := 43 }
theorem flX1_holds_18 : Cond.fieldLink RX1 18 "TwoTierCache$Tier" "policy" "I" ∈ wsX1_holds := by decide +kernel
theorem inX1_holds_X1 : ∀ w ∈ u_ws RX1 TX1 9, w ∈ wsX1_holds := by decide +kernel
theorem flX1_holds_13 : Cond.fieldLink RX1 13 "TwoTierCache$Tier" "rows" "[LTwoTierCache$PageRow;" ∈ wsX1_holds := by decide +kernel
theorem nX0_hasV : yX0_has.cls = RX0 ∧ yX0_has.cls ≠ "java/lang/invoke/MethodHandle" ∧ yX0_has.cls ≠ "java/lang/invoke/VarHandle" ∧ (parseMethodDescriptor yX0_has.desc).map (fun d => d.parameters.length) = some 1 := by decide +kernel
set_option maxHeartbeats 4000000 in
set_option maxRecDepth 100000 in
/-- holds -/
theorem c_X1_holds (l : Launch) (K : gT) (h : Nat) (ad : Nat → Nat) (pol c g : Nat) (db mb : Int64) (hi mi dv : Int32) (a b d e : List Nat) (f0 f1 f2 f3 : Nat → Int32) (R0 : rowR f0 a) (R1 : rowR f1 b) (R2 : rowR f2 d) (R3 : rowR f3 e) (hpol : pol < 4) (x : Nat) (hx : x < 64) : Ci l yX1_holds wsX1_holds rmX1_holds K [.ref h, .int (nI x)] (tW K h ad pol c g db mb hi mi dv a b d e f0 f1 f2 f3) (fun (r : Int32) (u : Unit) => r = bI (sHolds pol a b d x)) (fun u => tW K h ad pol c g db mb hi mi dv a b d e f0 f1 f2 f3) 0 0 := by
  refine m_z (cc := cX1_holds) (own := RX1) (maxL := 3) (lv0 := [(0, .ref h), (1, .int (nI x))]) (by decide) rfl rfl (Nat.le_of_ble_eq_true rfl) rfl ?_
  intro X hX hin hret
  refine g_ws (ws' := [(h, .inr (1, [.ref (ad 0), .int (nI pol), .int (nI c), .int (nI g), .long db, .long mb, .int hi, .int mi, .int dv])), (ad 0, .inl (K.2.2.2, 4, .inr (.inr (.inr (.inr (rw4 (ad 1) (ad 3) (ad 5) (ad 7))))))), (ad 1, .inr (0, [.ref (ad 2), .int (nI a.length)])), (ad 2, .inl (K.2.1, 17, .inl f0)), (ad 3, .inr (0, [.ref (ad 4), .int (nI b.length)])), (ad 4, .inl (K.2.1, 17, .inl f1)), (ad 5, .inr (0, [.ref (ad 6), .int (nI d.length)])), (ad 6, .inl (K.2.1, 17, .inl f2)), (ad 7, .inr (0, [.ref (ad 8), .int (nI e.length)])), (ad 8, .inl (K.2.1, 17, .inl f3))]) rfl ?_
  refine g_aload_n (pc := 0) hX dX1_holds_0 rfl 0 rfl ?_
  refine g_get (pc := 1) (C := RX1) (T := TX1) (N := 9) (ci := 1) (v := .int (nI pol)) hX inX1_holds_X1 0 rfl rfl 1 (by decide) flX1_holds_18 rfl rfl dX1_holds_1 ?_
  refine g_iconst (pc := 4) (v := (nI 2)) hX dX1_holds_4 (by decide) ?_
  refine g_icmpN_ne (pc := 5) (tgt := 12) hX (by omega) (by omega) dX1_holds_5 (by decide) (fun c5 => ?_) (fun c5 => ?_)
  · refine g_iconst (pc := 12) (v := (nI 1)) hX dX1_holds_12 (by decide) ?_
    refine g_istore_n (pc := 13) (lv' := [(2, .int (nI 1)), (0, .ref h), (1, .int (nI x))]) hX dX1_holds_13 rfl (by decide) rfl ?_
    refine g_aload_n (pc := 14) hX dX1_holds_14 rfl 1 rfl ?_
    refine g_get (pc := 15) (C := RX1) (T := TX1) (N := 9) (ci := 1) (v := .ref (ad 0)) hX inX1_holds_X1 0 rfl rfl 0 (by decide) flX1_holds_13 rfl rfl dX1_holds_15 ?_
    refine g_iconst (pc := 18) (v := (nI 0)) hX dX1_holds_18 (by decide) ?_
    refine g_aldq (pc := 19) (v := .ref (ad 1)) hX 1 rfl (by omega) (by omega) rfl dX1_holds_19 ?_
    refine g_iload_n (pc := 20) hX dX1_holds_20 rfl 2 rfl ?_
    refine g_ci (pc := 21) hX (wc := [(ad 1, .inr (0, [.ref (ad 2), .int (nI a.length)])), (ad 2, .inl (K.2.1, 17, .inl f0))]) (wr := [(h, .inr (1, [.ref (ad 0), .int (nI pol), .int (nI c), .int (nI g), .long db, .long mb, .int hi, .int mi, .int dv])), (ad 0, .inl (K.2.2.2, 4, .inr (.inr (.inr (.inr (rw4 (ad 1) (ad 3) (ad 5) (ad 7))))))), (ad 3, .inr (0, [.ref (ad 4), .int (nI b.length)])), (ad 4, .inl (K.2.1, 17, .inl f1)), (ad 5, .inr (0, [.ref (ad 6), .int (nI d.length)])), (ad 6, .inl (K.2.1, 17, .inl f2)), (ad 7, .inr (0, [.ref (ad 8), .int (nI e.length)])), (ad 8, .inl (K.2.1, 17, .inl f3))]) (Wd' := fun u => [(h, .inr (1, [.ref (ad 0), .int (nI pol), .int (nI c), .int (nI g), .long db, .long mb, .int hi, .int mi, .int dv])), (ad 0, .inl (K.2.2.2, 4, .inr (.inr (.inr (.inr (rw4 (ad 1) (ad 3) (ad 5) (ad 7))))))), (ad 1, .inr (0, [.ref (ad 2), .int (nI a.length)])), (ad 2, .inl (K.2.1, 17, .inl f0)), (ad 3, .inr (0, [.ref (ad 4), .int (nI b.length)])), (ad 4, .inl (K.2.1, 17, .inl f1)), (ad 5, .inr (0, [.ref (ad 6), .int (nI d.length)])), (ad 6, .inl (K.2.1, 17, .inl f2)), (ad 7, .inr (0, [.ref (ad 8), .int (nI e.length)])), (ad 8, .inl (K.2.1, 17, .inl f3))]) (g_goV (pc := 21) hX (As := [.int (nI x)]) (stk := []) (wc := [(ad 1, .inr (0, [.ref (ad 2), .int (nI a.length)])), (ad 2, .inl (K.2.1, 17, .inl f0))]) (c_X0_has l K (ad 1) (ad 2) a f0 R0 x (by omega)) rfl rfl rfl gX1_holds_X0_has nX0_hasV rfl 0 rfl ⟨(Nat.le_of_ble_eq_true rfl), (Nat.le_of_ble_eq_true rfl)⟩ [2, 3] rfl rfl rfl (Nat.le_of_ble_eq_true rfl) dX1_holds_21 ⟨(Nat.le_of_ble_eq_true rfl), (Nat.le_of_ble_eq_true rfl)⟩) [2, 3] [0, 1, 4, 5, 6, 7, 8, 9] [0, 1, 8, 9, 2, 3, 4, 5, 6, 7] rfl rfl rfl (by decide) rfl (fun _ => rfl) (fun r u h21 => ?_)
    obtain rfl := h21
    refine g_ifB_ne (pc := 24) (tgt := 40) hX dX1_holds_24 (by decide) (fun c24 => ?_) (fun c24 => ?_)
    · refine g_iconst (pc := 40) (v := (nI 1)) hX dX1_holds_40 (by decide) ?_
      refine g_goto (pc := 41) (tgt := 45) hX dX1_holds_41 (by decide) ?_
      refine g_top (y := bI true) (by decide) ?_
      exact hret (v := true) (u := ()) dX1_holds_45 (by rw [show sHolds pol a b d x = true from by unfold sHolds; rw [c24]; first | done | rfl]) rfl
    · refine g_aload_n (pc := 27) hX dX1_holds_27 rfl 1 rfl ?_
      refine g_get (pc := 28) (C := RX1) (T := TX1) (N := 9) (ci := 1) (v := .ref (ad 0)) hX inX1_holds_X1 0 rfl rfl 0 (by decide) flX1_holds_13 rfl rfl dX1_holds_28 ?_
      refine g_iload_n (pc := 31) hX dX1_holds_31 rfl 0 rfl ?_
      refine g_aldq (pc := 32) (v := .ref (ad 3)) hX 1 rfl (by omega) (by omega) rfl dX1_holds_32 ?_
      refine g_iload_n (pc := 33) hX dX1_holds_33 rfl 2 rfl ?_
      refine g_ci (pc := 34) hX (wc := [(ad 3, .inr (0, [.ref (ad 4), .int (nI b.length)])), (ad 4, .inl (K.2.1, 17, .inl f1))]) (wr := [(h, .inr (1, [.ref (ad 0), .int (nI pol), .int (nI c), .int (nI g), .long db, .long mb, .int hi, .int mi, .int dv])), (ad 0, .inl (K.2.2.2, 4, .inr (.inr (.inr (.inr (rw4 (ad 1) (ad 3) (ad 5) (ad 7))))))), (ad 1, .inr (0, [.ref (ad 2), .int (nI a.length)])), (ad 2, .inl (K.2.1, 17, .inl f0)), (ad 5, .inr (0, [.ref (ad 6), .int (nI d.length)])), (ad 6, .inl (K.2.1, 17, .inl f2)), (ad 7, .inr (0, [.ref (ad 8), .int (nI e.length)])), (ad 8, .inl (K.2.1, 17, .inl f3))]) (Wd' := fun u => [(h, .inr (1, [.ref (ad 0), .int (nI pol), .int (nI c), .int (nI g), .long db, .long mb, .int hi, .int mi, .int dv])), (ad 0, .inl (K.2.2.2, 4, .inr (.inr (.inr (.inr (rw4 (ad 1) (ad 3) (ad 5) (ad 7))))))), (ad 1, .inr (0, [.ref (ad 2), .int (nI a.length)])), (ad 2, .inl (K.2.1, 17, .inl f0)), (ad 3, .inr (0, [.ref (ad 4), .int (nI b.length)])), (ad 4, .inl (K.2.1, 17, .inl f1)), (ad 5, .inr (0, [.ref (ad 6), .int (nI d.length)])), (ad 6, .inl (K.2.1, 17, .inl f2)), (ad 7, .inr (0, [.ref (ad 8), .int (nI e.length)])), (ad 8, .inl (K.2.1, 17, .inl f3))]) (g_goV (pc := 34) hX (As := [.int (nI x)]) (stk := []) (wc := [(ad 3, .inr (0, [.ref (ad 4), .int (nI b.length)])), (ad 4, .inl (K.2.1, 17, .inl f1))]) (c_X0_has l K (ad 3) (ad 4) b f1 R1 x (by omega)) rfl rfl rfl gX1_holds_X0_has nX0_hasV rfl 0 rfl ⟨(Nat.le_of_ble_eq_true rfl), (Nat.le_of_ble_eq_true rfl)⟩ [4, 5] rfl rfl rfl (Nat.le_of_ble_eq_true rfl) dX1_holds_34 ⟨(Nat.le_of_ble_eq_true rfl), (Nat.le_of_ble_eq_true rfl)⟩) [4, 5] [0, 1, 2, 3, 6, 7, 8, 9] [0, 1, 2, 3, 8, 9, 4, 5, 6, 7] rfl rfl rfl (by decide) rfl (fun _ => rfl) (fun r u h34 => ?_)
      obtain rfl := h34
      refine g_ifB_eq (pc := 37) (tgt := 44) hX dX1_holds_37 (by decide) (fun c37 => ?_) (fun c37 => ?_)
      · refine g_iconst (pc := 44) (v := (nI 0)) hX dX1_holds_44 (by decide) ?_
        refine g_top (y := bI false) (by decide) ?_
        exact hret (v := false) (u := ()) dX1_holds_45 (by rw [show sHolds pol a b d x = false from by unfold sHolds; rw [c24, if_neg c5, c37]; first | done | rfl]) rfl
      · refine g_iconst (pc := 40) (v := (nI 1)) hX dX1_holds_40 (by decide) ?_
        refine g_goto (pc := 41) (tgt := 45) hX dX1_holds_41 (by decide) ?_
        refine g_top (y := bI true) (by decide) ?_
        exact hret (v := true) (u := ()) dX1_holds_45 (by rw [show sHolds pol a b d x = true from by unfold sHolds; rw [c24, if_neg c5, c37]; first | done | rfl]) rfl
  · refine g_iconst (pc := 8) (v := (nI 2)) hX dX1_holds_8 (by decide) ?_
    refine g_goto (pc := 9) (tgt := 13) hX dX1_holds_9 (by decide) ?_
    refine g_istore_n (pc := 13) (lv' := [(2, .int (nI 2)), (0, .ref h), (1, .int (nI x))]) hX dX1_holds_13 rfl (by decide) rfl ?_
    refine g_aload_n (pc := 14) hX dX1_holds_14 rfl 1 rfl ?_
    refine g_get (pc := 15) (C := RX1) (T := TX1) (N := 9) (ci := 1) (v := .ref (ad 0)) hX inX1_holds_X1 0 rfl rfl 0 (by decide) flX1_holds_13 rfl rfl dX1_holds_15 ?_
    refine g_iconst (pc := 18) (v := (nI 0)) hX dX1_holds_18 (by decide) ?_
    refine g_aldq (pc := 19) (v := .ref (ad 1)) hX 1 rfl (by omega) (by omega) rfl dX1_holds_19 ?_
    refine g_iload_n (pc := 20) hX dX1_holds_20 rfl 2 rfl ?_
    refine g_ci (pc := 21) hX (wc := [(ad 1, .inr (0, [.ref (ad 2), .int (nI a.length)])), (ad 2, .inl (K.2.1, 17, .inl f0))]) (wr := [(h, .inr (1, [.ref (ad 0), .int (nI pol), .int (nI c), .int (nI g), .long db, .long mb, .int hi, .int mi, .int dv])), (ad 0, .inl (K.2.2.2, 4, .inr (.inr (.inr (.inr (rw4 (ad 1) (ad 3) (ad 5) (ad 7))))))), (ad 3, .inr (0, [.ref (ad 4), .int (nI b.length)])), (ad 4, .inl (K.2.1, 17, .inl f1)), (ad 5, .inr (0, [.ref (ad 6), .int (nI d.length)])), (ad 6, .inl (K.2.1, 17, .inl f2)), (ad 7, .inr (0, [.ref (ad 8), .int (nI e.length)])), (ad 8, .inl (K.2.1, 17, .inl f3))]) (Wd' := fun u => [(h, .inr (1, [.ref (ad 0), .int (nI pol), .int (nI c), .int (nI g), .long db, .long mb, .int hi, .int mi, .int dv])), (ad 0, .inl (K.2.2.2, 4, .inr (.inr (.inr (.inr (rw4 (ad 1) (ad 3) (ad 5) (ad 7))))))), (ad 1, .inr (0, [.ref (ad 2), .int (nI a.length)])), (ad 2, .inl (K.2.1, 17, .inl f0)), (ad 3, .inr (0, [.ref (ad 4), .int (nI b.length)])), (ad 4, .inl (K.2.1, 17, .inl f1)), (ad 5, .inr (0, [.ref (ad 6), .int (nI d.length)])), (ad 6, .inl (K.2.1, 17, .inl f2)), (ad 7, .inr (0, [.ref (ad 8), .int (nI e.length)])), (ad 8, .inl (K.2.1, 17, .inl f3))]) (g_goV (pc := 21) hX (As := [.int (nI x)]) (stk := []) (wc := [(ad 1, .inr (0, [.ref (ad 2), .int (nI a.length)])), (ad 2, .inl (K.2.1, 17, .inl f0))]) (c_X0_has l K (ad 1) (ad 2) a f0 R0 x (by omega)) rfl rfl rfl gX1_holds_X0_has nX0_hasV rfl 0 rfl ⟨(Nat.le_of_ble_eq_true rfl), (Nat.le_of_ble_eq_true rfl)⟩ [2, 3] rfl rfl rfl (Nat.le_of_ble_eq_true rfl) dX1_holds_21 ⟨(Nat.le_of_ble_eq_true rfl), (Nat.le_of_ble_eq_true rfl)⟩) [2, 3] [0, 1, 4, 5, 6, 7, 8, 9] [0, 1, 8, 9, 2, 3, 4, 5, 6, 7] rfl rfl rfl (by decide) rfl (fun _ => rfl) (fun r u h21 => ?_)
    obtain rfl := h21
    refine g_ifB_ne (pc := 24) (tgt := 40) hX dX1_holds_24 (by decide) (fun c24 => ?_) (fun c24 => ?_)
    · refine g_iconst (pc := 40) (v := (nI 1)) hX dX1_holds_40 (by decide) ?_
      refine g_goto (pc := 41) (tgt := 45) hX dX1_holds_41 (by decide) ?_
      refine g_top (y := bI true) (by decide) ?_
      exact hret (v := true) (u := ()) dX1_holds_45 (by rw [show sHolds pol a b d x = true from by unfold sHolds; rw [c24]; first | done | rfl]) rfl
    · refine g_aload_n (pc := 27) hX dX1_holds_27 rfl 1 rfl ?_
      refine g_get (pc := 28) (C := RX1) (T := TX1) (N := 9) (ci := 1) (v := .ref (ad 0)) hX inX1_holds_X1 0 rfl rfl 0 (by decide) flX1_holds_13 rfl rfl dX1_holds_28 ?_
      refine g_iload_n (pc := 31) hX dX1_holds_31 rfl 0 rfl ?_
      refine g_aldq (pc := 32) (v := .ref (ad 5)) hX 1 rfl (by omega) (by omega) rfl dX1_holds_32 ?_
      refine g_iload_n (pc := 33) hX dX1_holds_33 rfl 2 rfl ?_
      refine g_ci (pc := 34) hX (wc := [(ad 5, .inr (0, [.ref (ad 6), .int (nI d.length)])), (ad 6, .inl (K.2.1, 17, .inl f2))]) (wr := [(h, .inr (1, [.ref (ad 0), .int (nI pol), .int (nI c), .int (nI g), .long db, .long mb, .int hi, .int mi, .int dv])), (ad 0, .inl (K.2.2.2, 4, .inr (.inr (.inr (.inr (rw4 (ad 1) (ad 3) (ad 5) (ad 7))))))), (ad 1, .inr (0, [.ref (ad 2), .int (nI a.length)])), (ad 2, .inl (K.2.1, 17, .inl f0)), (ad 3, .inr (0, [.ref (ad 4), .int (nI b.length)])), (ad 4, .inl (K.2.1, 17, .inl f1)), (ad 7, .inr (0, [.ref (ad 8), .int (nI e.length)])), (ad 8, .inl (K.2.1, 17, .inl f3))]) (Wd' := fun u => [(h, .inr (1, [.ref (ad 0), .int (nI pol), .int (nI c), .int (nI g), .long db, .long mb, .int hi, .int mi, .int dv])), (ad 0, .inl (K.2.2.2, 4, .inr (.inr (.inr (.inr (rw4 (ad 1) (ad 3) (ad 5) (ad 7))))))), (ad 1, .inr (0, [.ref (ad 2), .int (nI a.length)])), (ad 2, .inl (K.2.1, 17, .inl f0)), (ad 3, .inr (0, [.ref (ad 4), .int (nI b.length)])), (ad 4, .inl (K.2.1, 17, .inl f1)), (ad 5, .inr (0, [.ref (ad 6), .int (nI d.length)])), (ad 6, .inl (K.2.1, 17, .inl f2)), (ad 7, .inr (0, [.ref (ad 8), .int (nI e.length)])), (ad 8, .inl (K.2.1, 17, .inl f3))]) (g_goV (pc := 34) hX (As := [.int (nI x)]) (stk := []) (wc := [(ad 5, .inr (0, [.ref (ad 6), .int (nI d.length)])), (ad 6, .inl (K.2.1, 17, .inl f2))]) (c_X0_has l K (ad 5) (ad 6) d f2 R2 x (by omega)) rfl rfl rfl gX1_holds_X0_has nX0_hasV rfl 0 rfl ⟨(Nat.le_of_ble_eq_true rfl), (Nat.le_of_ble_eq_true rfl)⟩ [6, 7] rfl rfl rfl (Nat.le_of_ble_eq_true rfl) dX1_holds_34 ⟨(Nat.le_of_ble_eq_true rfl), (Nat.le_of_ble_eq_true rfl)⟩) [6, 7] [0, 1, 2, 3, 4, 5, 8, 9] [0, 1, 2, 3, 4, 5, 8, 9, 6, 7] rfl rfl rfl (by decide) rfl (fun _ => rfl) (fun r u h34 => ?_)
      obtain rfl := h34
      refine g_ifB_eq (pc := 37) (tgt := 44) hX dX1_holds_37 (by decide) (fun c37 => ?_) (fun c37 => ?_)
      · refine g_iconst (pc := 44) (v := (nI 0)) hX dX1_holds_44 (by decide) ?_
        refine g_top (y := bI false) (by decide) ?_
        exact hret (v := false) (u := ()) dX1_holds_45 (by rw [show sHolds pol a b d x = false from by unfold sHolds; rw [c24, if_pos c5, c37]; first | done | rfl]) rfl
      · refine g_iconst (pc := 40) (v := (nI 1)) hX dX1_holds_40 (by decide) ?_
        refine g_goto (pc := 41) (tgt := 45) hX dX1_holds_41 (by decide) ?_
        refine g_top (y := bI true) (by decide) ?_
        exact hret (v := true) (u := ()) dX1_holds_45 (by rw [show sHolds pol a b d x = true from by unfold sHolds; rw [c24, if_pos c5, c37]; first | done | rfl]) rfl
abbrev rmX1_bit : Room := { frames := 0, cells := 0, slots := 0, locals := 0 }
set_option maxHeartbeats 4000000 in
set_option maxRecDepth 100000 in
/-- bit -/
theorem c_X1_bit (l : Launch) (K : gT) (p : Nat) : Cl l yX1_bit wsX1_bit rmX1_bit K [.int (nI p)] [] (fun (r : Int64) (u : Unit) => r = btL p) (fun u => []) 0 0 := by
  refine m_l (cc := cX1_bit) (own := RX1) (maxL := 1) (lv0 := [(0, .int (nI p))]) (by decide) rfl rfl (Nat.le_of_ble_eq_true rfl) rfl ?_
  intro X hX hin hret
  refine g_lconst (pc := 0) (v := 1) hX dX1_bit_0 (by decide) ?_
  refine g_iload_n (pc := 1) hX dX1_bit_1 rfl 0 rfl ?_
  refine g_lshl (pc := 2) (v := 1 <<< (((nI p)).toInt64 &&& 63)) hX dX1_bit_2 rfl ?_
  exact hret (u := ()) dX1_bit_3 rfl rfl
abbrev rmX1_isDirty : Room := { frames := 1, cells := 0, slots := 0, locals := 20 }
theorem flX1_isDirty_31 : Cond.fieldLink RX1 31 "TwoTierCache$Tier" "dirtyPages" "J" ∈ wsX1_isDirty := by decide +kernel
theorem inX1_isDirty_X1 : ∀ w ∈ u_ws RX1 TX1 9, w ∈ wsX1_isDirty := by decide +kernel
theorem nX1_bitS : yX1_bit.cls ≠ "java/lang/invoke/MethodHandle" ∧ yX1_bit.cls ≠ "java/lang/invoke/VarHandle" ∧ (parseMethodDescriptor yX1_bit.desc).map (fun d => d.parameters.length) = some 1 := by decide +kernel
set_option maxHeartbeats 4000000 in
set_option maxRecDepth 100000 in
/-- X1_isDirty -/
theorem c_X1_isDirty (l : Launch) (K : gT) (h : Nat) (ad : Nat → Nat) (pol c g : Nat) (db mb : Int64) (hi mi dv : Int32) (a b d e : List Nat) (f0 f1 f2 f3 : Nat → Int32) (D : Nat → Bool) (hD : bitsR db D) (p : Nat) (hp : p < 64) : Ci l yX1_isDirty wsX1_isDirty rmX1_isDirty K [.ref h, .int (nI p)] (tW K h ad pol c g db mb hi mi dv a b d e f0 f1 f2 f3) (fun (r : Int32) (u : Unit) => r = bI (D p)) (fun u => tW K h ad pol c g db mb hi mi dv a b d e f0 f1 f2 f3) 0 0 := by
  refine m_z (cc := cX1_isDirty) (own := RX1) (maxL := 2) (lv0 := [(0, .ref h), (1, .int (nI p))]) (by decide) rfl rfl (Nat.le_of_ble_eq_true rfl) rfl ?_
  intro X hX hin hret
  refine g_ws (ws' := [(h, .inr (1, [.ref (ad 0), .int (nI pol), .int (nI c), .int (nI g), .long db, .long mb, .int hi, .int mi, .int dv])), (ad 0, .inl (K.2.2.2, 4, .inr (.inr (.inr (.inr (rw4 (ad 1) (ad 3) (ad 5) (ad 7))))))), (ad 1, .inr (0, [.ref (ad 2), .int (nI a.length)])), (ad 2, .inl (K.2.1, 17, .inl f0)), (ad 3, .inr (0, [.ref (ad 4), .int (nI b.length)])), (ad 4, .inl (K.2.1, 17, .inl f1)), (ad 5, .inr (0, [.ref (ad 6), .int (nI d.length)])), (ad 6, .inl (K.2.1, 17, .inl f2)), (ad 7, .inr (0, [.ref (ad 8), .int (nI e.length)])), (ad 8, .inl (K.2.1, 17, .inl f3))]) rfl ?_
  refine g_aload_n (pc := 0) hX dX1_isDirty_0 rfl 0 rfl ?_
  refine g_get (pc := 1) (C := RX1) (T := TX1) (N := 9) (ci := 1) (v := .long db) hX inX1_isDirty_X1 0 rfl rfl 4 (by decide) flX1_isDirty_31 rfl rfl dX1_isDirty_1 ?_
  refine g_iload_n (pc := 4) hX dX1_isDirty_4 rfl 1 rfl ?_
  refine g_cl (pc := 5) hX (wc := []) (wr := [(h, .inr (1, [.ref (ad 0), .int (nI pol), .int (nI c), .int (nI g), .long db, .long mb, .int hi, .int mi, .int dv])), (ad 0, .inl (K.2.2.2, 4, .inr (.inr (.inr (.inr (rw4 (ad 1) (ad 3) (ad 5) (ad 7))))))), (ad 1, .inr (0, [.ref (ad 2), .int (nI a.length)])), (ad 2, .inl (K.2.1, 17, .inl f0)), (ad 3, .inr (0, [.ref (ad 4), .int (nI b.length)])), (ad 4, .inl (K.2.1, 17, .inl f1)), (ad 5, .inr (0, [.ref (ad 6), .int (nI d.length)])), (ad 6, .inl (K.2.1, 17, .inl f2)), (ad 7, .inr (0, [.ref (ad 8), .int (nI e.length)])), (ad 8, .inl (K.2.1, 17, .inl f3))]) (Wd' := fun u => [(h, .inr (1, [.ref (ad 0), .int (nI pol), .int (nI c), .int (nI g), .long db, .long mb, .int hi, .int mi, .int dv])), (ad 0, .inl (K.2.2.2, 4, .inr (.inr (.inr (.inr (rw4 (ad 1) (ad 3) (ad 5) (ad 7))))))), (ad 1, .inr (0, [.ref (ad 2), .int (nI a.length)])), (ad 2, .inl (K.2.1, 17, .inl f0)), (ad 3, .inr (0, [.ref (ad 4), .int (nI b.length)])), (ad 4, .inl (K.2.1, 17, .inl f1)), (ad 5, .inr (0, [.ref (ad 6), .int (nI d.length)])), (ad 6, .inl (K.2.1, 17, .inl f2)), (ad 7, .inr (0, [.ref (ad 8), .int (nI e.length)])), (ad 8, .inl (K.2.1, 17, .inl f3))]) (g_goS (pc := 5) hX (As := [.int (nI p)]) (stk := [.long db]) (wc := []) (c_X1_bit l K p) rfl rfl rfl gX1_isDirty_X1_bit nX1_bitS ⟨(Nat.le_of_ble_eq_true rfl), (Nat.le_of_ble_eq_true rfl)⟩ [] rfl rfl rfl (Nat.le_of_ble_eq_true rfl) dX1_isDirty_5 ⟨(Nat.le_of_ble_eq_true rfl), (Nat.le_of_ble_eq_true rfl)⟩) [] [0, 1, 2, 3, 4, 5, 6, 7, 8, 9] [0, 1, 2, 3, 4, 5, 6, 7, 8, 9] rfl rfl rfl (by decide) rfl (fun _ => rfl) (fun r u h5 => ?_)
  obtain rfl := h5
  refine g_land (pc := 8) (z := db &&& (btL p)) hX dX1_isDirty_8 rfl ?_
  refine g_lconst (pc := 9) (v := 0) hX dX1_isDirty_9 (by decide) ?_
  refine g_lcmp (pc := 10) hX dX1_isDirty_10 ?_
  refine g_if_eq (pc := 11) (tgt := 18) hX dX1_isDirty_11 (by decide) (fun c11 => ?_) (fun c11 => ?_)
  · refine g_iconst (pc := 18) (v := (nI 0)) hX dX1_isDirty_18 (by decide) ?_
    refine g_top (y := bI false) (by decide) ?_
    exact hret (v := false) (u := ()) dX1_isDirty_19 (by rw [show D p = false from ((bits_and hD hp).mp ((lgc_eq _ _).mp c11))]) rfl
  · refine g_iconst (pc := 14) (v := (nI 1)) hX dX1_isDirty_14 (by decide) ?_
    refine g_goto (pc := 15) (tgt := 19) hX dX1_isDirty_15 (by decide) ?_
    refine g_top (y := bI true) (by decide) ?_
    exact hret (v := true) (u := ()) dX1_isDirty_19 (by rw [show D p = true from (by cases hq : D p with | true => rfl | false => exact absurd ((lgc_eq _ _).mpr ((bits_and hD hp).mpr hq)) c11)]) rfl
abbrev rmX1_isMarked : Room := { frames := 1, cells := 0, slots := 0, locals := 20 }
theorem flX1_isMarked_35 : Cond.fieldLink RX1 35 "TwoTierCache$Tier" "markedPages" "J" ∈ wsX1_isMarked := by decide +kernel
theorem inX1_isMarked_X1 : ∀ w ∈ u_ws RX1 TX1 9, w ∈ wsX1_isMarked := by decide +kernel
set_option maxHeartbeats 4000000 in
set_option maxRecDepth 100000 in
/-- X1_isMarked -/
theorem c_X1_isMarked (l : Launch) (K : gT) (h : Nat) (ad : Nat → Nat) (pol c g : Nat) (db mb : Int64) (hi mi dv : Int32) (a b d e : List Nat) (f0 f1 f2 f3 : Nat → Int32) (M : Nat → Bool) (hM : bitsR mb M) (p : Nat) (hp : p < 64) : Ci l yX1_isMarked wsX1_isMarked rmX1_isMarked K [.ref h, .int (nI p)] (tW K h ad pol c g db mb hi mi dv a b d e f0 f1 f2 f3) (fun (r : Int32) (u : Unit) => r = bI (M p)) (fun u => tW K h ad pol c g db mb hi mi dv a b d e f0 f1 f2 f3) 0 0 := by
  refine m_z (cc := cX1_isMarked) (own := RX1) (maxL := 2) (lv0 := [(0, .ref h), (1, .int (nI p))]) (by decide) rfl rfl (Nat.le_of_ble_eq_true rfl) rfl ?_
  intro X hX hin hret
  refine g_ws (ws' := [(h, .inr (1, [.ref (ad 0), .int (nI pol), .int (nI c), .int (nI g), .long db, .long mb, .int hi, .int mi, .int dv])), (ad 0, .inl (K.2.2.2, 4, .inr (.inr (.inr (.inr (rw4 (ad 1) (ad 3) (ad 5) (ad 7))))))), (ad 1, .inr (0, [.ref (ad 2), .int (nI a.length)])), (ad 2, .inl (K.2.1, 17, .inl f0)), (ad 3, .inr (0, [.ref (ad 4), .int (nI b.length)])), (ad 4, .inl (K.2.1, 17, .inl f1)), (ad 5, .inr (0, [.ref (ad 6), .int (nI d.length)])), (ad 6, .inl (K.2.1, 17, .inl f2)), (ad 7, .inr (0, [.ref (ad 8), .int (nI e.length)])), (ad 8, .inl (K.2.1, 17, .inl f3))]) rfl ?_
  refine g_aload_n (pc := 0) hX dX1_isMarked_0 rfl 0 rfl ?_
  refine g_get (pc := 1) (C := RX1) (T := TX1) (N := 9) (ci := 1) (v := .long mb) hX inX1_isMarked_X1 0 rfl rfl 5 (by decide) flX1_isMarked_35 rfl rfl dX1_isMarked_1 ?_
  refine g_iload_n (pc := 4) hX dX1_isMarked_4 rfl 1 rfl ?_
  refine g_cl (pc := 5) hX (wc := []) (wr := [(h, .inr (1, [.ref (ad 0), .int (nI pol), .int (nI c), .int (nI g), .long db, .long mb, .int hi, .int mi, .int dv])), (ad 0, .inl (K.2.2.2, 4, .inr (.inr (.inr (.inr (rw4 (ad 1) (ad 3) (ad 5) (ad 7))))))), (ad 1, .inr (0, [.ref (ad 2), .int (nI a.length)])), (ad 2, .inl (K.2.1, 17, .inl f0)), (ad 3, .inr (0, [.ref (ad 4), .int (nI b.length)])), (ad 4, .inl (K.2.1, 17, .inl f1)), (ad 5, .inr (0, [.ref (ad 6), .int (nI d.length)])), (ad 6, .inl (K.2.1, 17, .inl f2)), (ad 7, .inr (0, [.ref (ad 8), .int (nI e.length)])), (ad 8, .inl (K.2.1, 17, .inl f3))]) (Wd' := fun u => [(h, .inr (1, [.ref (ad 0), .int (nI pol), .int (nI c), .int (nI g), .long db, .long mb, .int hi, .int mi, .int dv])), (ad 0, .inl (K.2.2.2, 4, .inr (.inr (.inr (.inr (rw4 (ad 1) (ad 3) (ad 5) (ad 7))))))), (ad 1, .inr (0, [.ref (ad 2), .int (nI a.length)])), (ad 2, .inl (K.2.1, 17, .inl f0)), (ad 3, .inr (0, [.ref (ad 4), .int (nI b.length)])), (ad 4, .inl (K.2.1, 17, .inl f1)), (ad 5, .inr (0, [.ref (ad 6), .int (nI d.length)])), (ad 6, .inl (K.2.1, 17, .inl f2)), (ad 7, .inr (0, [.ref (ad 8), .int (nI e.length)])), (ad 8, .inl (K.2.1, 17, .inl f3))]) (g_goS (pc := 5) hX (As := [.int (nI p)]) (stk := [.long mb]) (wc := []) (c_X1_bit l K p) rfl rfl rfl gX1_isMarked_X1_bit nX1_bitS ⟨(Nat.le_of_ble_eq_true rfl), (Nat.le_of_ble_eq_true rfl)⟩ [] rfl rfl rfl (Nat.le_of_ble_eq_true rfl) dX1_isMarked_5 ⟨(Nat.le_of_ble_eq_true rfl), (Nat.le_of_ble_eq_true rfl)⟩) [] [0, 1, 2, 3, 4, 5, 6, 7, 8, 9] [0, 1, 2, 3, 4, 5, 6, 7, 8, 9] rfl rfl rfl (by decide) rfl (fun _ => rfl) (fun r u h5 => ?_)
  obtain rfl := h5
  refine g_land (pc := 8) (z := mb &&& (btL p)) hX dX1_isMarked_8 rfl ?_
  refine g_lconst (pc := 9) (v := 0) hX dX1_isMarked_9 (by decide) ?_
  refine g_lcmp (pc := 10) hX dX1_isMarked_10 ?_
  refine g_if_eq (pc := 11) (tgt := 18) hX dX1_isMarked_11 (by decide) (fun c11 => ?_) (fun c11 => ?_)
  · refine g_iconst (pc := 18) (v := (nI 0)) hX dX1_isMarked_18 (by decide) ?_
    refine g_top (y := bI false) (by decide) ?_
    exact hret (v := false) (u := ()) dX1_isMarked_19 (by rw [show M p = false from ((bits_and hM hp).mp ((lgc_eq _ _).mp c11))]) rfl
  · refine g_iconst (pc := 14) (v := (nI 1)) hX dX1_isMarked_14 (by decide) ?_
    refine g_goto (pc := 15) (tgt := 19) hX dX1_isMarked_15 (by decide) ?_
    refine g_top (y := bI true) (by decide) ?_
    exact hret (v := true) (u := ()) dX1_isMarked_19 (by rw [show M p = true from (by cases hq : M p with | true => rfl | false => exact absurd ((lgc_eq _ _).mpr ((bits_and hM hp).mpr hq)) c11)]) rfl
abbrev rmX1_pageAt : Room := { frames := 1, cells := 0, slots := 0, locals := 21 }
theorem flX1_pageAt_13 : Cond.fieldLink RX1 13 "TwoTierCache$Tier" "rows" "[LTwoTierCache$PageRow;" ∈ wsX1_pageAt := by decide +kernel
theorem inX1_pageAt_X1 : ∀ w ∈ u_ws RX1 TX1 9, w ∈ wsX1_pageAt := by decide +kernel
set_option maxHeartbeats 4000000 in
set_option maxRecDepth 100000 in
/-- pageAt -/
theorem c_X1_pageAt (l : Launch) (K : gT) (h : Nat) (ad : Nat → Nat) (pol c g : Nat) (db mb : Int64) (hi mi dv : Int32) (a b d e : List Nat) (f0 f1 f2 f3 : Nat → Int32) (R0 : rowR f0 a) (R1 : rowR f1 b) (R2 : rowR f2 d) (R3 : rowR f3 e) (rw0 i : Int32) : Ci l yX1_pageAt wsX1_pageAt rmX1_pageAt K [.ref h, .int rw0, .int i] (tW K h ad pol c g db mb hi mi dv a b d e f0 f1 f2 f3) (fun (r : Int32) (u : Unit) => r = sRow a b d e rw0 i) (fun u => tW K h ad pol c g db mb hi mi dv a b d e f0 f1 f2 f3) 0 0 := by
  refine m_i (cc := cX1_pageAt) (own := RX1) (maxL := 3) (lv0 := [(0, .ref h), (1, .int rw0), (2, .int i)]) (by decide) rfl rfl (Nat.le_of_ble_eq_true rfl) rfl ?_
  intro X hX hin hret
  refine g_ws (ws' := [(h, .inr (1, [.ref (ad 0), .int (nI pol), .int (nI c), .int (nI g), .long db, .long mb, .int hi, .int mi, .int dv])), (ad 0, .inl (K.2.2.2, 4, .inr (.inr (.inr (.inr (rw4 (ad 1) (ad 3) (ad 5) (ad 7))))))), (ad 1, .inr (0, [.ref (ad 2), .int (nI a.length)])), (ad 2, .inl (K.2.1, 17, .inl f0)), (ad 3, .inr (0, [.ref (ad 4), .int (nI b.length)])), (ad 4, .inl (K.2.1, 17, .inl f1)), (ad 5, .inr (0, [.ref (ad 6), .int (nI d.length)])), (ad 6, .inl (K.2.1, 17, .inl f2)), (ad 7, .inr (0, [.ref (ad 8), .int (nI e.length)])), (ad 8, .inl (K.2.1, 17, .inl f3))]) rfl ?_
  refine g_iload_n (pc := 0) hX dX1_pageAt_0 rfl 1 rfl ?_
  refine g_if_lt (pc := 1) (tgt := 22) hX dX1_pageAt_1 (by decide) (fun c1 => ?_) (fun c1 => ?_)
  · refine g_iconst (pc := 22) (v := (-1)) hX dX1_pageAt_22 (by decide) ?_
    exact hret (u := ()) dX1_pageAt_23 (by unfold sRow; rw [if_neg (fun q => absurd c1 (by rw [q]; decide)), if_neg (fun q => absurd c1 (by rw [q]; decide)), if_neg (fun q => absurd c1 (by rw [q]; decide)), if_neg (fun q => absurd c1 (by rw [q]; decide))]) rfl
  · refine g_iload_n (pc := 4) hX dX1_pageAt_4 rfl 1 rfl ?_
    refine g_iconst (pc := 5) (v := (nI 4)) hX dX1_pageAt_5 (by decide) ?_
    refine g_icmp_ge (pc := 6) (tgt := 22) hX dX1_pageAt_6 (by decide) (fun c6 => ?_) (fun c6 => ?_)
    · refine g_iconst (pc := 22) (v := (-1)) hX dX1_pageAt_22 (by decide) ?_
      exact hret (u := ()) dX1_pageAt_23 (by unfold sRow; rw [if_neg (fun q => absurd c6 (by rw [q]; decide)), if_neg (fun q => absurd c6 (by rw [q]; decide)), if_neg (fun q => absurd c6 (by rw [q]; decide)), if_neg (fun q => absurd c6 (by rw [q]; decide))]) rfl
    · obtain ⟨j, hj, rfl⟩ : ∃ j : Nat, j < 4 ∧ rw0 = nI j := by
        rcases pk_ix rw0 (n := 4) (by omega) with h | h | h
        · exact absurd h c1
        · exact absurd h c6
        · exact h
      rcases (show j = 0 ∨ j = 1 ∨ j = 2 ∨ j = 3 by omega) with rfl | rfl | rfl | rfl
      · refine g_aload_n (pc := 9) hX dX1_pageAt_9 rfl 0 rfl ?_
        refine g_get (pc := 10) (C := RX1) (T := TX1) (N := 9) (ci := 1) (v := .ref (ad 0)) hX inX1_pageAt_X1 0 rfl rfl 0 (by decide) flX1_pageAt_13 rfl rfl dX1_pageAt_10 ?_
        refine g_iload_n (pc := 13) hX dX1_pageAt_13 rfl 1 rfl ?_
        refine g_aldq (pc := 14) (v := .ref (ad 1)) hX 1 rfl (by omega) (by omega) rfl dX1_pageAt_14 ?_
        refine g_iload_n (pc := 15) hX dX1_pageAt_15 rfl 2 rfl ?_
        refine g_ci (pc := 16) hX (wc := [(ad 1, .inr (0, [.ref (ad 2), .int (nI a.length)])), (ad 2, .inl (K.2.1, 17, .inl f0))]) (wr := [(h, .inr (1, [.ref (ad 0), .int (nI pol), .int (nI c), .int (nI g), .long db, .long mb, .int hi, .int mi, .int dv])), (ad 0, .inl (K.2.2.2, 4, .inr (.inr (.inr (.inr (rw4 (ad 1) (ad 3) (ad 5) (ad 7))))))), (ad 3, .inr (0, [.ref (ad 4), .int (nI b.length)])), (ad 4, .inl (K.2.1, 17, .inl f1)), (ad 5, .inr (0, [.ref (ad 6), .int (nI d.length)])), (ad 6, .inl (K.2.1, 17, .inl f2)), (ad 7, .inr (0, [.ref (ad 8), .int (nI e.length)])), (ad 8, .inl (K.2.1, 17, .inl f3))]) (Wd' := fun u => [(h, .inr (1, [.ref (ad 0), .int (nI pol), .int (nI c), .int (nI g), .long db, .long mb, .int hi, .int mi, .int dv])), (ad 0, .inl (K.2.2.2, 4, .inr (.inr (.inr (.inr (rw4 (ad 1) (ad 3) (ad 5) (ad 7))))))), (ad 1, .inr (0, [.ref (ad 2), .int (nI a.length)])), (ad 2, .inl (K.2.1, 17, .inl f0)), (ad 3, .inr (0, [.ref (ad 4), .int (nI b.length)])), (ad 4, .inl (K.2.1, 17, .inl f1)), (ad 5, .inr (0, [.ref (ad 6), .int (nI d.length)])), (ad 6, .inl (K.2.1, 17, .inl f2)), (ad 7, .inr (0, [.ref (ad 8), .int (nI e.length)])), (ad 8, .inl (K.2.1, 17, .inl f3))]) (g_goV (pc := 16) hX (As := [.int i]) (stk := []) (wc := [(ad 1, .inr (0, [.ref (ad 2), .int (nI a.length)])), (ad 2, .inl (K.2.1, 17, .inl f0))]) (c_X0_at l K (ad 1) (ad 2) a f0 R0 i) rfl rfl rfl gX1_pageAt_X0_at nX0_atV rfl 0 rfl ⟨(Nat.le_of_ble_eq_true rfl), (Nat.le_of_ble_eq_true rfl)⟩ [2, 3] rfl rfl rfl (Nat.le_of_ble_eq_true rfl) dX1_pageAt_16 ⟨(Nat.le_of_ble_eq_true rfl), (Nat.le_of_ble_eq_true rfl)⟩) [2, 3] [0, 1, 4, 5, 6, 7, 8, 9] [0, 1, 8, 9, 2, 3, 4, 5, 6, 7] rfl rfl rfl (by decide) rfl (fun _ => rfl) (fun r u h16 => ?_)
        obtain rfl := h16
        refine g_goto (pc := 19) (tgt := 23) hX dX1_pageAt_19 (by decide) ?_
        exact hret (u := ()) dX1_pageAt_23 (by unfold sRow; first | rfl | (rw [if_neg (by decide)]; first | rfl | (rw [if_neg (by decide)]; first | rfl | (rw [if_neg (by decide)]; rfl)))) rfl
      · refine g_aload_n (pc := 9) hX dX1_pageAt_9 rfl 0 rfl ?_
        refine g_get (pc := 10) (C := RX1) (T := TX1) (N := 9) (ci := 1) (v := .ref (ad 0)) hX inX1_pageAt_X1 0 rfl rfl 0 (by decide) flX1_pageAt_13 rfl rfl dX1_pageAt_10 ?_
        refine g_iload_n (pc := 13) hX dX1_pageAt_13 rfl 1 rfl ?_
        refine g_aldq (pc := 14) (v := .ref (ad 3)) hX 1 rfl (by omega) (by omega) rfl dX1_pageAt_14 ?_
        refine g_iload_n (pc := 15) hX dX1_pageAt_15 rfl 2 rfl ?_
        refine g_ci (pc := 16) hX (wc := [(ad 3, .inr (0, [.ref (ad 4), .int (nI b.length)])), (ad 4, .inl (K.2.1, 17, .inl f1))]) (wr := [(h, .inr (1, [.ref (ad 0), .int (nI pol), .int (nI c), .int (nI g), .long db, .long mb, .int hi, .int mi, .int dv])), (ad 0, .inl (K.2.2.2, 4, .inr (.inr (.inr (.inr (rw4 (ad 1) (ad 3) (ad 5) (ad 7))))))), (ad 1, .inr (0, [.ref (ad 2), .int (nI a.length)])), (ad 2, .inl (K.2.1, 17, .inl f0)), (ad 5, .inr (0, [.ref (ad 6), .int (nI d.length)])), (ad 6, .inl (K.2.1, 17, .inl f2)), (ad 7, .inr (0, [.ref (ad 8), .int (nI e.length)])), (ad 8, .inl (K.2.1, 17, .inl f3))]) (Wd' := fun u => [(h, .inr (1, [.ref (ad 0), .int (nI pol), .int (nI c), .int (nI g), .long db, .long mb, .int hi, .int mi, .int dv])), (ad 0, .inl (K.2.2.2, 4, .inr (.inr (.inr (.inr (rw4 (ad 1) (ad 3) (ad 5) (ad 7))))))), (ad 1, .inr (0, [.ref (ad 2), .int (nI a.length)])), (ad 2, .inl (K.2.1, 17, .inl f0)), (ad 3, .inr (0, [.ref (ad 4), .int (nI b.length)])), (ad 4, .inl (K.2.1, 17, .inl f1)), (ad 5, .inr (0, [.ref (ad 6), .int (nI d.length)])), (ad 6, .inl (K.2.1, 17, .inl f2)), (ad 7, .inr (0, [.ref (ad 8), .int (nI e.length)])), (ad 8, .inl (K.2.1, 17, .inl f3))]) (g_goV (pc := 16) hX (As := [.int i]) (stk := []) (wc := [(ad 3, .inr (0, [.ref (ad 4), .int (nI b.length)])), (ad 4, .inl (K.2.1, 17, .inl f1))]) (c_X0_at l K (ad 3) (ad 4) b f1 R1 i) rfl rfl rfl gX1_pageAt_X0_at nX0_atV rfl 0 rfl ⟨(Nat.le_of_ble_eq_true rfl), (Nat.le_of_ble_eq_true rfl)⟩ [4, 5] rfl rfl rfl (Nat.le_of_ble_eq_true rfl) dX1_pageAt_16 ⟨(Nat.le_of_ble_eq_true rfl), (Nat.le_of_ble_eq_true rfl)⟩) [4, 5] [0, 1, 2, 3, 6, 7, 8, 9] [0, 1, 2, 3, 8, 9, 4, 5, 6, 7] rfl rfl rfl (by decide) rfl (fun _ => rfl) (fun r u h16 => ?_)
        obtain rfl := h16
        refine g_goto (pc := 19) (tgt := 23) hX dX1_pageAt_19 (by decide) ?_
        exact hret (u := ()) dX1_pageAt_23 (by unfold sRow; first | rfl | (rw [if_neg (by decide)]; first | rfl | (rw [if_neg (by decide)]; first | rfl | (rw [if_neg (by decide)]; rfl)))) rfl
      · refine g_aload_n (pc := 9) hX dX1_pageAt_9 rfl 0 rfl ?_
        refine g_get (pc := 10) (C := RX1) (T := TX1) (N := 9) (ci := 1) (v := .ref (ad 0)) hX inX1_pageAt_X1 0 rfl rfl 0 (by decide) flX1_pageAt_13 rfl rfl dX1_pageAt_10 ?_
        refine g_iload_n (pc := 13) hX dX1_pageAt_13 rfl 1 rfl ?_
        refine g_aldq (pc := 14) (v := .ref (ad 5)) hX 1 rfl (by omega) (by omega) rfl dX1_pageAt_14 ?_
        refine g_iload_n (pc := 15) hX dX1_pageAt_15 rfl 2 rfl ?_
        refine g_ci (pc := 16) hX (wc := [(ad 5, .inr (0, [.ref (ad 6), .int (nI d.length)])), (ad 6, .inl (K.2.1, 17, .inl f2))]) (wr := [(h, .inr (1, [.ref (ad 0), .int (nI pol), .int (nI c), .int (nI g), .long db, .long mb, .int hi, .int mi, .int dv])), (ad 0, .inl (K.2.2.2, 4, .inr (.inr (.inr (.inr (rw4 (ad 1) (ad 3) (ad 5) (ad 7))))))), (ad 1, .inr (0, [.ref (ad 2), .int (nI a.length)])), (ad 2, .inl (K.2.1, 17, .inl f0)), (ad 3, .inr (0, [.ref (ad 4), .int (nI b.length)])), (ad 4, .inl (K.2.1, 17, .inl f1)), (ad 7, .inr (0, [.ref (ad 8), .int (nI e.length)])), (ad 8, .inl (K.2.1, 17, .inl f3))]) (Wd' := fun u => [(h, .inr (1, [.ref (ad 0), .int (nI pol), .int (nI c), .int (nI g), .long db, .long mb, .int hi, .int mi, .int dv])), (ad 0, .inl (K.2.2.2, 4, .inr (.inr (.inr (.inr (rw4 (ad 1) (ad 3) (ad 5) (ad 7))))))), (ad 1, .inr (0, [.ref (ad 2), .int (nI a.length)])), (ad 2, .inl (K.2.1, 17, .inl f0)), (ad 3, .inr (0, [.ref (ad 4), .int (nI b.length)])), (ad 4, .inl (K.2.1, 17, .inl f1)), (ad 5, .inr (0, [.ref (ad 6), .int (nI d.length)])), (ad 6, .inl (K.2.1, 17, .inl f2)), (ad 7, .inr (0, [.ref (ad 8), .int (nI e.length)])), (ad 8, .inl (K.2.1, 17, .inl f3))]) (g_goV (pc := 16) hX (As := [.int i]) (stk := []) (wc := [(ad 5, .inr (0, [.ref (ad 6), .int (nI d.length)])), (ad 6, .inl (K.2.1, 17, .inl f2))]) (c_X0_at l K (ad 5) (ad 6) d f2 R2 i) rfl rfl rfl gX1_pageAt_X0_at nX0_atV rfl 0 rfl ⟨(Nat.le_of_ble_eq_true rfl), (Nat.le_of_ble_eq_true rfl)⟩ [6, 7] rfl rfl rfl (Nat.le_of_ble_eq_true rfl) dX1_pageAt_16 ⟨(Nat.le_of_ble_eq_true rfl), (Nat.le_of_ble_eq_true rfl)⟩) [6, 7] [0, 1, 2, 3, 4, 5, 8, 9] [0, 1, 2, 3, 4, 5, 8, 9, 6, 7] rfl rfl rfl (by decide) rfl (fun _ => rfl) (fun r u h16 => ?_)
        obtain rfl := h16
        refine g_goto (pc := 19) (tgt := 23) hX dX1_pageAt_19 (by decide) ?_
        exact hret (u := ()) dX1_pageAt_23 (by unfold sRow; first | rfl | (rw [if_neg (by decide)]; first | rfl | (rw [if_neg (by decide)]; first | rfl | (rw [if_neg (by decide)]; rfl)))) rfl
      · refine g_aload_n (pc := 9) hX dX1_pageAt_9 rfl 0 rfl ?_
        refine g_get (pc := 10) (C := RX1) (T := TX1) (N := 9) (ci := 1) (v := .ref (ad 0)) hX inX1_pageAt_X1 0 rfl rfl 0 (by decide) flX1_pageAt_13 rfl rfl dX1_pageAt_10 ?_
        refine g_iload_n (pc := 13) hX dX1_pageAt_13 rfl 1 rfl ?_
        refine g_aldq (pc := 14) (v := .ref (ad 7)) hX 1 rfl (by omega) (by omega) rfl dX1_pageAt_14 ?_
        refine g_iload_n (pc := 15) hX dX1_pageAt_15 rfl 2 rfl ?_
        refine g_ci (pc := 16) hX (wc := [(ad 7, .inr (0, [.ref (ad 8), .int (nI e.length)])), (ad 8, .inl (K.2.1, 17, .inl f3))]) (wr := [(h, .inr (1, [.ref (ad 0), .int (nI pol), .int (nI c), .int (nI g), .long db, .long mb, .int hi, .int mi, .int dv])), (ad 0, .inl (K.2.2.2, 4, .inr (.inr (.inr (.inr (rw4 (ad 1) (ad 3) (ad 5) (ad 7))))))), (ad 1, .inr (0, [.ref (ad 2), .int (nI a.length)])), (ad 2, .inl (K.2.1, 17, .inl f0)), (ad 3, .inr (0, [.ref (ad 4), .int (nI b.length)])), (ad 4, .inl (K.2.1, 17, .inl f1)), (ad 5, .inr (0, [.ref (ad 6), .int (nI d.length)])), (ad 6, .inl (K.2.1, 17, .inl f2))]) (Wd' := fun u => [(h, .inr (1, [.ref (ad 0), .int (nI pol), .int (nI c), .int (nI g), .long db, .long mb, .int hi, .int mi, .int dv])), (ad 0, .inl (K.2.2.2, 4, .inr (.inr (.inr (.inr (rw4 (ad 1) (ad 3) (ad 5) (ad 7))))))), (ad 1, .inr (0, [.ref (ad 2), .int (nI a.length)])), (ad 2, .inl (K.2.1, 17, .inl f0)), (ad 3, .inr (0, [.ref (ad 4), .int (nI b.length)])), (ad 4, .inl (K.2.1, 17, .inl f1)), (ad 5, .inr (0, [.ref (ad 6), .int (nI d.length)])), (ad 6, .inl (K.2.1, 17, .inl f2)), (ad 7, .inr (0, [.ref (ad 8), .int (nI e.length)])), (ad 8, .inl (K.2.1, 17, .inl f3))]) (g_goV (pc := 16) hX (As := [.int i]) (stk := []) (wc := [(ad 7, .inr (0, [.ref (ad 8), .int (nI e.length)])), (ad 8, .inl (K.2.1, 17, .inl f3))]) (c_X0_at l K (ad 7) (ad 8) e f3 R3 i) rfl rfl rfl gX1_pageAt_X0_at nX0_atV rfl 0 rfl ⟨(Nat.le_of_ble_eq_true rfl), (Nat.le_of_ble_eq_true rfl)⟩ [8, 9] rfl rfl rfl (Nat.le_of_ble_eq_true rfl) dX1_pageAt_16 ⟨(Nat.le_of_ble_eq_true rfl), (Nat.le_of_ble_eq_true rfl)⟩) [8, 9] [0, 1, 2, 3, 4, 5, 6, 7] [0, 1, 2, 3, 4, 5, 6, 7, 8, 9] rfl rfl rfl (by decide) rfl (fun _ => rfl) (fun r u h16 => ?_)
        obtain rfl := h16
        refine g_goto (pc := 19) (tgt := 23) hX dX1_pageAt_19 (by decide) ?_
        exact hret (u := ()) dX1_pageAt_23 (by unfold sRow; first | rfl | (rw [if_neg (by decide)]; first | rfl | (rw [if_neg (by decide)]; first | rfl | (rw [if_neg (by decide)]; rfl)))) rfl
abbrev rmX1_currentGoal : Room := { frames := 0, cells := 0, slots := 0, locals := 0 }
theorem flX1_currentGoal_18 : Cond.fieldLink RX1 18 "TwoTierCache$Tier" "policy" "I" ∈ wsX1_currentGoal := by decide +kernel
theorem inX1_currentGoal_X1 : ∀ w ∈ u_ws RX1 TX1 9, w ∈ wsX1_currentGoal := by decide +kernel
theorem flX1_currentGoal_28 : Cond.fieldLink RX1 28 "TwoTierCache$Tier" "goal" "I" ∈ wsX1_currentGoal := by decide +kernel
set_option maxHeartbeats 4000000 in
set_option maxRecDepth 100000 in
/-- currentGoal -/
theorem c_X1_currentGoal (l : Launch) (K : gT) (h : Nat) (ad : Nat → Nat) (pol c g : Nat) (db mb : Int64) (hi mi dv : Int32) (a b d e : List Nat) (f0 f1 f2 f3 : Nat → Int32) (hpol : pol < 4) : Ci l yX1_currentGoal wsX1_currentGoal rmX1_currentGoal K [.ref h] (tW K h ad pol c g db mb hi mi dv a b d e f0 f1 f2 f3) (fun (r : Int32) (u : Unit) => r = sGoal pol g) (fun u => tW K h ad pol c g db mb hi mi dv a b d e f0 f1 f2 f3) 0 0 := by
  refine m_i (cc := cX1_currentGoal) (own := RX1) (maxL := 1) (lv0 := [(0, .ref h)]) (by decide) rfl rfl (Nat.le_of_ble_eq_true rfl) rfl ?_
  intro X hX hin hret
  refine g_ws (ws' := [(h, .inr (1, [.ref (ad 0), .int (nI pol), .int (nI c), .int (nI g), .long db, .long mb, .int hi, .int mi, .int dv])), (ad 0, .inl (K.2.2.2, 4, .inr (.inr (.inr (.inr (rw4 (ad 1) (ad 3) (ad 5) (ad 7))))))), (ad 1, .inr (0, [.ref (ad 2), .int (nI a.length)])), (ad 2, .inl (K.2.1, 17, .inl f0)), (ad 3, .inr (0, [.ref (ad 4), .int (nI b.length)])), (ad 4, .inl (K.2.1, 17, .inl f1)), (ad 5, .inr (0, [.ref (ad 6), .int (nI d.length)])), (ad 6, .inl (K.2.1, 17, .inl f2)), (ad 7, .inr (0, [.ref (ad 8), .int (nI e.length)])), (ad 8, .inl (K.2.1, 17, .inl f3))]) rfl ?_
  refine g_aload_n (pc := 0) hX dX1_currentGoal_0 rfl 0 rfl ?_
  refine g_get (pc := 1) (C := RX1) (T := TX1) (N := 9) (ci := 1) (v := .int (nI pol)) hX inX1_currentGoal_X1 0 rfl rfl 1 (by decide) flX1_currentGoal_18 rfl rfl dX1_currentGoal_1 ?_
  refine g_iconst (pc := 4) (v := (nI 3)) hX dX1_currentGoal_4 (by decide) ?_
  refine g_icmpN_ne (pc := 5) (tgt := 15) hX (by omega) (by omega) dX1_currentGoal_5 (by decide) (fun c5 => ?_) (fun c5 => ?_)
  · refine g_iconst (pc := 15) (v := (-1)) hX dX1_currentGoal_15 (by decide) ?_
    exact hret (u := ()) dX1_currentGoal_16 (by unfold sGoal; rw [if_neg c5]) rfl
  · refine g_aload_n (pc := 8) hX dX1_currentGoal_8 rfl 0 rfl ?_
    refine g_get (pc := 9) (C := RX1) (T := TX1) (N := 9) (ci := 1) (v := .int (nI g)) hX inX1_currentGoal_X1 0 rfl rfl 3 (by decide) flX1_currentGoal_28 rfl rfl dX1_currentGoal_9 ?_
    refine g_goto (pc := 12) (tgt := 16) hX dX1_currentGoal_12 (by decide) ?_
    exact hret (u := ()) dX1_currentGoal_16 (by unfold sGoal; rw [if_pos c5]) rfl
abbrev rmX1_tally : Room := { frames := 0, cells := 0, slots := 0, locals := 0 }
theorem flX1_tally_38 : Cond.fieldLink RX1 38 "TwoTierCache$Tier" "hits" "I" ∈ wsX1_tally := by decide +kernel
theorem inX1_tally_X1 : ∀ w ∈ u_ws RX1 TX1 9, w ∈ wsX1_tally := by decide +kernel
theorem flX1_tally_41 : Cond.fieldLink RX1 41 "TwoTierCache$Tier" "misses" "I" ∈ wsX1_tally := by decide +kernel
theorem flX1_tally_44 : Cond.fieldLink RX1 44 "TwoTierCache$Tier" "dirtyVictims" "I" ∈ wsX1_tally := by decide +kernel
set_option maxHeartbeats 4000000 in
set_option maxRecDepth 100000 in
/-- tally -/
theorem c_X1_tally (l : Launch) (K : gT) (h : Nat) (ad : Nat → Nat) (pol c g : Nat) (db mb : Int64) (hi mi dv : Int32) (a b d e : List Nat) (f0 f1 f2 f3 : Nat → Int32) (what : Int32) : Ci l yX1_tally wsX1_tally rmX1_tally K [.ref h, .int what] (tW K h ad pol c g db mb hi mi dv a b d e f0 f1 f2 f3) (fun (r : Int32) (u : Unit) => r = sCount hi mi dv what) (fun u => tW K h ad pol c g db mb hi mi dv a b d e f0 f1 f2 f3) 0 0 := by
  refine m_i (cc := cX1_tally) (own := RX1) (maxL := 2) (lv0 := [(0, .ref h), (1, .int what)]) (by decide) rfl rfl (Nat.le_of_ble_eq_true rfl) rfl ?_
  intro X hX hin hret
  refine g_ws (ws' := [(h, .inr (1, [.ref (ad 0), .int (nI pol), .int (nI c), .int (nI g), .long db, .long mb, .int hi, .int mi, .int dv])), (ad 0, .inl (K.2.2.2, 4, .inr (.inr (.inr (.inr (rw4 (ad 1) (ad 3) (ad 5) (ad 7))))))), (ad 1, .inr (0, [.ref (ad 2), .int (nI a.length)])), (ad 2, .inl (K.2.1, 17, .inl f0)), (ad 3, .inr (0, [.ref (ad 4), .int (nI b.length)])), (ad 4, .inl (K.2.1, 17, .inl f1)), (ad 5, .inr (0, [.ref (ad 6), .int (nI d.length)])), (ad 6, .inl (K.2.1, 17, .inl f2)), (ad 7, .inr (0, [.ref (ad 8), .int (nI e.length)])), (ad 8, .inl (K.2.1, 17, .inl f3))]) rfl ?_
  refine g_iload_n (pc := 0) hX dX1_tally_0 rfl 1 rfl ?_
  by_cases e0 : what = 0
  · subst e0
    refine g_tableIn (pc := 1) (x := 0) (off := 27) (tgt := 28) hX dX1_tally_1 (by decide) (by decide) (by decide) (by decide) ?_
    refine g_aload_n (pc := 28) hX dX1_tally_28 rfl 0 rfl ?_
    refine g_get (pc := 29) (C := RX1) (T := TX1) (N := 9) (ci := 1) (v := .int hi) hX inX1_tally_X1 0 rfl rfl 6 (by decide) flX1_tally_38 rfl rfl dX1_tally_29 ?_
    exact hret (u := ()) dX1_tally_32 (by unfold sCount; rw [if_pos rfl]) rfl
  by_cases e1 : what = 1
  · subst e1
    refine g_tableIn (pc := 1) (x := 1) (off := 32) (tgt := 33) hX dX1_tally_1 (by decide) (by decide) (by decide) (by decide) ?_
    refine g_aload_n (pc := 33) hX dX1_tally_33 rfl 0 rfl ?_
    refine g_get (pc := 34) (C := RX1) (T := TX1) (N := 9) (ci := 1) (v := .int mi) hX inX1_tally_X1 0 rfl rfl 7 (by decide) flX1_tally_41 rfl rfl dX1_tally_34 ?_
    exact hret (u := ()) dX1_tally_37 (by unfold sCount; rw [if_neg (by decide), if_pos rfl]) rfl
  by_cases e2 : what = 2
  · subst e2
    refine g_tableIn (pc := 1) (x := 2) (off := 37) (tgt := 38) hX dX1_tally_1 (by decide) (by decide) (by decide) (by decide) ?_
    refine g_aload_n (pc := 38) hX dX1_tally_38 rfl 0 rfl ?_
    refine g_get (pc := 39) (C := RX1) (T := TX1) (N := 9) (ci := 1) (v := .int dv) hX inX1_tally_X1 0 rfl rfl 8 (by decide) flX1_tally_44 rfl rfl dX1_tally_39 ?_
    exact hret (u := ()) dX1_tally_42 (by unfold sCount; rw [if_neg (by decide), if_neg (by decide), if_pos rfl]) rfl
  · refine g_tableOut (pc := 1) (tgt := 43) hX dX1_tally_1 (sw3 e0 e1 e2) (by decide) ?_
    refine g_iconst (pc := 43) (v := (-1)) hX dX1_tally_43 (by decide) ?_
    exact hret (u := ()) dX1_tally_44 (by unfold sCount; rw [if_neg e0, if_neg e1, if_neg e2]) rfl
abbrev rmX1_soil : Room := { frames := 1, cells := 0, slots := 0, locals := 20 }
theorem flX1_soil_31 : Cond.fieldLink RX1 31 "TwoTierCache$Tier" "dirtyPages" "J" ∈ wsX1_soil := by decide +kernel
theorem inX1_soil_X1 : ∀ w ∈ u_ws RX1 TX1 9, w ∈ wsX1_soil := by decide +kernel
set_option maxHeartbeats 4000000 in
set_option maxRecDepth 100000 in
/-- soil -/
theorem c_X1_soil (l : Launch) (K : gT) (h : Nat) (ad : Nat → Nat) (pol c g : Nat) (db mb : Int64) (hi mi dv : Int32) (a b d e : List Nat) (f0 f1 f2 f3 : Nat → Int32) (D : Nat → Bool) (hD : bitsR db D) (p : Nat) (hp : p < 64) : Cv l yX1_soil wsX1_soil rmX1_soil K [.ref h, .int (nI p)] (tW K h ad pol c g db mb hi mi dv a b d e f0 f1 f2 f3) (fun (u : Int64) => bitsR u (setB D p true)) (fun u => tW K h ad pol c g u mb hi mi dv a b d e f0 f1 f2 f3) 0 0 := by
  refine m_v (cc := cX1_soil) (own := RX1) (maxL := 2) (lv0 := [(0, .ref h), (1, .int (nI p))]) (by decide) rfl rfl (Nat.le_of_ble_eq_true rfl) rfl ?_
  intro X hX hin hret
  refine g_ws (ws' := [(h, .inr (1, [.ref (ad 0), .int (nI pol), .int (nI c), .int (nI g), .long db, .long mb, .int hi, .int mi, .int dv])), (ad 0, .inl (K.2.2.2, 4, .inr (.inr (.inr (.inr (rw4 (ad 1) (ad 3) (ad 5) (ad 7))))))), (ad 1, .inr (0, [.ref (ad 2), .int (nI a.length)])), (ad 2, .inl (K.2.1, 17, .inl f0)), (ad 3, .inr (0, [.ref (ad 4), .int (nI b.length)])), (ad 4, .inl (K.2.1, 17, .inl f1)), (ad 5, .inr (0, [.ref (ad 6), .int (nI d.length)])), (ad 6, .inl (K.2.1, 17, .inl f2)), (ad 7, .inr (0, [.ref (ad 8), .int (nI e.length)])), (ad 8, .inl (K.2.1, 17, .inl f3))]) rfl ?_
  refine g_aload_n (pc := 0) hX dX1_soil_0 rfl 0 rfl ?_
  refine g_dup (pc := 1) hX dX1_soil_1 rfl ?_
  refine g_get (pc := 2) (C := RX1) (T := TX1) (N := 9) (ci := 1) (v := .long db) hX inX1_soil_X1 0 rfl rfl 4 (by decide) flX1_soil_31 rfl rfl dX1_soil_2 ?_
  refine g_iload_n (pc := 5) hX dX1_soil_5 rfl 1 rfl ?_
  refine g_cl (pc := 6) hX (wc := []) (wr := [(h, .inr (1, [.ref (ad 0), .int (nI pol), .int (nI c), .int (nI g), .long db, .long mb, .int hi, .int mi, .int dv])), (ad 0, .inl (K.2.2.2, 4, .inr (.inr (.inr (.inr (rw4 (ad 1) (ad 3) (ad 5) (ad 7))))))), (ad 1, .inr (0, [.ref (ad 2), .int (nI a.length)])), (ad 2, .inl (K.2.1, 17, .inl f0)), (ad 3, .inr (0, [.ref (ad 4), .int (nI b.length)])), (ad 4, .inl (K.2.1, 17, .inl f1)), (ad 5, .inr (0, [.ref (ad 6), .int (nI d.length)])), (ad 6, .inl (K.2.1, 17, .inl f2)), (ad 7, .inr (0, [.ref (ad 8), .int (nI e.length)])), (ad 8, .inl (K.2.1, 17, .inl f3))]) (Wd' := fun u => [(h, .inr (1, [.ref (ad 0), .int (nI pol), .int (nI c), .int (nI g), .long db, .long mb, .int hi, .int mi, .int dv])), (ad 0, .inl (K.2.2.2, 4, .inr (.inr (.inr (.inr (rw4 (ad 1) (ad 3) (ad 5) (ad 7))))))), (ad 1, .inr (0, [.ref (ad 2), .int (nI a.length)])), (ad 2, .inl (K.2.1, 17, .inl f0)), (ad 3, .inr (0, [.ref (ad 4), .int (nI b.length)])), (ad 4, .inl (K.2.1, 17, .inl f1)), (ad 5, .inr (0, [.ref (ad 6), .int (nI d.length)])), (ad 6, .inl (K.2.1, 17, .inl f2)), (ad 7, .inr (0, [.ref (ad 8), .int (nI e.length)])), (ad 8, .inl (K.2.1, 17, .inl f3))]) (g_goS (pc := 6) hX (As := [.int (nI p)]) (stk := [.long db, .ref h]) (wc := []) (c_X1_bit l K p) rfl rfl rfl gX1_soil_X1_bit nX1_bitS ⟨(Nat.le_of_ble_eq_true rfl), (Nat.le_of_ble_eq_true rfl)⟩ [] rfl rfl rfl (Nat.le_of_ble_eq_true rfl) dX1_soil_6 ⟨(Nat.le_of_ble_eq_true rfl), (Nat.le_of_ble_eq_true rfl)⟩) [] [0, 1, 2, 3, 4, 5, 6, 7, 8, 9] [0, 1, 2, 3, 4, 5, 6, 7, 8, 9] rfl rfl rfl (by decide) rfl (fun _ => rfl) (fun r u h6 => ?_)
  obtain rfl := h6
  refine g_lor (pc := 9) (z := db ||| (btL p)) hX dX1_soil_9 rfl ?_
  refine g_put (pc := 10) (C := RX1) (T := TX1) (N := 9) (ci := 1) (v := .long (db ||| (btL p))) (ws' := [(h, .inr (1, [.ref (ad 0), .int (nI pol), .int (nI c), .int (nI g), .long (db ||| (btL p)), .long mb, .int hi, .int mi, .int dv])), (ad 0, .inl (K.2.2.2, 4, .inr (.inr (.inr (.inr (rw4 (ad 1) (ad 3) (ad 5) (ad 7))))))), (ad 1, .inr (0, [.ref (ad 2), .int (nI a.length)])), (ad 2, .inl (K.2.1, 17, .inl f0)), (ad 3, .inr (0, [.ref (ad 4), .int (nI b.length)])), (ad 4, .inl (K.2.1, 17, .inl f1)), (ad 5, .inr (0, [.ref (ad 6), .int (nI d.length)])), (ad 6, .inl (K.2.1, 17, .inl f2)), (ad 7, .inr (0, [.ref (ad 8), .int (nI e.length)])), (ad 8, .inl (K.2.1, 17, .inl f3))]) hX inX1_soil_X1 tyX1 tyX1_ok nmX1 0 rfl rfl 4 (by decide) flX1_soil_31 rfl rfl rfl rfl (Nat.le_of_ble_eq_true rfl) rfl dX1_soil_10 ?_
  exact hret (u := db ||| btL p) dX1_soil_13 (bits_or hD hp) rfl
abbrev rmX1_clean : Room := { frames := 2, cells := 0, slots := 0, locals := 41 }
theorem nX1_isDirtyV : yX1_isDirty.cls = RX1 ∧ yX1_isDirty.cls ≠ "java/lang/invoke/MethodHandle" ∧ yX1_isDirty.cls ≠ "java/lang/invoke/VarHandle" ∧ (parseMethodDescriptor yX1_isDirty.desc).map (fun d => d.parameters.length) = some 1 := by decide +kernel
theorem flX1_clean_31 : Cond.fieldLink RX1 31 "TwoTierCache$Tier" "dirtyPages" "J" ∈ wsX1_clean := by decide +kernel
theorem inX1_clean_X1 : ∀ w ∈ u_ws RX1 TX1 9, w ∈ wsX1_clean := by decide +kernel
theorem wdX1_clean_k62 : Cond.constantLong RX1 62 (-1) ∈ wsX1_clean := by decide +kernel
set_option maxHeartbeats 4000000 in
set_option maxRecDepth 100000 in
/-- clean -/
theorem c_X1_clean (l : Launch) (K : gT) (h : Nat) (ad : Nat → Nat) (pol c g : Nat) (db mb : Int64) (hi mi dv : Int32) (a b d e : List Nat) (f0 f1 f2 f3 : Nat → Int32) (D : Nat → Bool) (hD : bitsR db D) (p : Nat) (hp : p < 64) : Ci l yX1_clean wsX1_clean rmX1_clean K [.ref h, .int (nI p)] (tW K h ad pol c g db mb hi mi dv a b d e f0 f1 f2 f3) (fun (r : Int32) (u : Int64) => r = bI (D p) ∧ bitsR u (setB D p false)) (fun u => tW K h ad pol c g u mb hi mi dv a b d e f0 f1 f2 f3) 0 0 := by
  refine m_z (cc := cX1_clean) (own := RX1) (maxL := 3) (lv0 := [(0, .ref h), (1, .int (nI p))]) (by decide) rfl rfl (Nat.le_of_ble_eq_true rfl) rfl ?_
  intro X hX hin hret
  refine g_ws (ws' := [(h, .inr (1, [.ref (ad 0), .int (nI pol), .int (nI c), .int (nI g), .long db, .long mb, .int hi, .int mi, .int dv])), (ad 0, .inl (K.2.2.2, 4, .inr (.inr (.inr (.inr (rw4 (ad 1) (ad 3) (ad 5) (ad 7))))))), (ad 1, .inr (0, [.ref (ad 2), .int (nI a.length)])), (ad 2, .inl (K.2.1, 17, .inl f0)), (ad 3, .inr (0, [.ref (ad 4), .int (nI b.length)])), (ad 4, .inl (K.2.1, 17, .inl f1)), (ad 5, .inr (0, [.ref (ad 6), .int (nI d.length)])), (ad 6, .inl (K.2.1, 17, .inl f2)), (ad 7, .inr (0, [.ref (ad 8), .int (nI e.length)])), (ad 8, .inl (K.2.1, 17, .inl f3))]) rfl ?_
  refine g_aload_n (pc := 0) hX dX1_clean_0 rfl 0 rfl ?_
  refine g_iload_n (pc := 1) hX dX1_clean_1 rfl 1 rfl ?_
  refine g_ci (pc := 2) hX (wc := [(h, .inr (1, [.ref (ad 0), .int (nI pol), .int (nI c), .int (nI g), .long db, .long mb, .int hi, .int mi, .int dv])), (ad 0, .inl (K.2.2.2, 4, .inr (.inr (.inr (.inr (rw4 (ad 1) (ad 3) (ad 5) (ad 7))))))), (ad 1, .inr (0, [.ref (ad 2), .int (nI a.length)])), (ad 2, .inl (K.2.1, 17, .inl f0)), (ad 3, .inr (0, [.ref (ad 4), .int (nI b.length)])), (ad 4, .inl (K.2.1, 17, .inl f1)), (ad 5, .inr (0, [.ref (ad 6), .int (nI d.length)])), (ad 6, .inl (K.2.1, 17, .inl f2)), (ad 7, .inr (0, [.ref (ad 8), .int (nI e.length)])), (ad 8, .inl (K.2.1, 17, .inl f3))]) (wr := []) (Wd' := fun u => [(h, .inr (1, [.ref (ad 0), .int (nI pol), .int (nI c), .int (nI g), .long db, .long mb, .int hi, .int mi, .int dv])), (ad 0, .inl (K.2.2.2, 4, .inr (.inr (.inr (.inr (rw4 (ad 1) (ad 3) (ad 5) (ad 7))))))), (ad 1, .inr (0, [.ref (ad 2), .int (nI a.length)])), (ad 2, .inl (K.2.1, 17, .inl f0)), (ad 3, .inr (0, [.ref (ad 4), .int (nI b.length)])), (ad 4, .inl (K.2.1, 17, .inl f1)), (ad 5, .inr (0, [.ref (ad 6), .int (nI d.length)])), (ad 6, .inl (K.2.1, 17, .inl f2)), (ad 7, .inr (0, [.ref (ad 8), .int (nI e.length)])), (ad 8, .inl (K.2.1, 17, .inl f3))]) (g_goV (pc := 2) hX (As := [.int (nI p)]) (stk := []) (wc := [(h, .inr (1, [.ref (ad 0), .int (nI pol), .int (nI c), .int (nI g), .long db, .long mb, .int hi, .int mi, .int dv])), (ad 0, .inl (K.2.2.2, 4, .inr (.inr (.inr (.inr (rw4 (ad 1) (ad 3) (ad 5) (ad 7))))))), (ad 1, .inr (0, [.ref (ad 2), .int (nI a.length)])), (ad 2, .inl (K.2.1, 17, .inl f0)), (ad 3, .inr (0, [.ref (ad 4), .int (nI b.length)])), (ad 4, .inl (K.2.1, 17, .inl f1)), (ad 5, .inr (0, [.ref (ad 6), .int (nI d.length)])), (ad 6, .inl (K.2.1, 17, .inl f2)), (ad 7, .inr (0, [.ref (ad 8), .int (nI e.length)])), (ad 8, .inl (K.2.1, 17, .inl f3))]) (c_X1_isDirty l K h ad pol c g db mb hi mi dv a b d e f0 f1 f2 f3 D hD p (by omega)) rfl rfl rfl gX1_clean_X1_isDirty nX1_isDirtyV rfl 0 rfl ⟨(Nat.le_of_ble_eq_true rfl), (Nat.le_of_ble_eq_true rfl)⟩ [0, 1, 2, 3, 4, 5, 6, 7, 8, 9] rfl rfl rfl (Nat.le_of_ble_eq_true rfl) dX1_clean_2 ⟨(Nat.le_of_ble_eq_true rfl), (Nat.le_of_ble_eq_true rfl)⟩) [0, 1, 2, 3, 4, 5, 6, 7, 8, 9] [] [0, 1, 2, 3, 4, 5, 6, 7, 8, 9] rfl rfl rfl (by decide) rfl (fun _ => rfl) (fun r u h2 => ?_)
  obtain rfl := h2
  refine g_istore_n (pc := 5) (lv' := [(2, .int (bI (D p))), (0, .ref h), (1, .int (nI p))]) hX dX1_clean_5 rfl (by decide) rfl ?_
  refine g_aload_n (pc := 6) hX dX1_clean_6 rfl 1 rfl ?_
  refine g_dup (pc := 7) hX dX1_clean_7 rfl ?_
  refine g_get (pc := 8) (C := RX1) (T := TX1) (N := 9) (ci := 1) (v := .long db) hX inX1_clean_X1 0 rfl rfl 4 (by decide) flX1_clean_31 rfl rfl dX1_clean_8 ?_
  refine g_iload_n (pc := 11) hX dX1_clean_11 rfl 2 rfl ?_
  refine g_cl (pc := 12) hX (wc := []) (wr := [(h, .inr (1, [.ref (ad 0), .int (nI pol), .int (nI c), .int (nI g), .long db, .long mb, .int hi, .int mi, .int dv])), (ad 0, .inl (K.2.2.2, 4, .inr (.inr (.inr (.inr (rw4 (ad 1) (ad 3) (ad 5) (ad 7))))))), (ad 1, .inr (0, [.ref (ad 2), .int (nI a.length)])), (ad 2, .inl (K.2.1, 17, .inl f0)), (ad 3, .inr (0, [.ref (ad 4), .int (nI b.length)])), (ad 4, .inl (K.2.1, 17, .inl f1)), (ad 5, .inr (0, [.ref (ad 6), .int (nI d.length)])), (ad 6, .inl (K.2.1, 17, .inl f2)), (ad 7, .inr (0, [.ref (ad 8), .int (nI e.length)])), (ad 8, .inl (K.2.1, 17, .inl f3))]) (Wd' := fun u => [(h, .inr (1, [.ref (ad 0), .int (nI pol), .int (nI c), .int (nI g), .long db, .long mb, .int hi, .int mi, .int dv])), (ad 0, .inl (K.2.2.2, 4, .inr (.inr (.inr (.inr (rw4 (ad 1) (ad 3) (ad 5) (ad 7))))))), (ad 1, .inr (0, [.ref (ad 2), .int (nI a.length)])), (ad 2, .inl (K.2.1, 17, .inl f0)), (ad 3, .inr (0, [.ref (ad 4), .int (nI b.length)])), (ad 4, .inl (K.2.1, 17, .inl f1)), (ad 5, .inr (0, [.ref (ad 6), .int (nI d.length)])), (ad 6, .inl (K.2.1, 17, .inl f2)), (ad 7, .inr (0, [.ref (ad 8), .int (nI e.length)])), (ad 8, .inl (K.2.1, 17, .inl f3))]) (g_goS (pc := 12) hX (As := [.int (nI p)]) (stk := [.long db, .ref h]) (wc := []) (c_X1_bit l K p) rfl rfl rfl gX1_clean_X1_bit nX1_bitS ⟨(Nat.le_of_ble_eq_true rfl), (Nat.le_of_ble_eq_true rfl)⟩ [] rfl rfl rfl (Nat.le_of_ble_eq_true rfl) dX1_clean_12 ⟨(Nat.le_of_ble_eq_true rfl), (Nat.le_of_ble_eq_true rfl)⟩) [] [0, 1, 2, 3, 4, 5, 6, 7, 8, 9] [0, 1, 2, 3, 4, 5, 6, 7, 8, 9] rfl rfl rfl (by decide) rfl (fun _ => rfl) (fun r u h12 => ?_)
  obtain rfl := h12
  refine g_ldc2 (pc := 15) (v := (-1)) hX wdX1_clean_k62 dX1_clean_15 ?_
  refine g_lxor (pc := 18) (z := (btL p) ^^^ (-1)) hX dX1_clean_18 rfl ?_
  refine g_land (pc := 19) (z := db &&& ((btL p) ^^^ (-1))) hX dX1_clean_19 rfl ?_
  refine g_put (pc := 20) (C := RX1) (T := TX1) (N := 9) (ci := 1) (v := .long (db &&& ((btL p) ^^^ (-1)))) (ws' := [(h, .inr (1, [.ref (ad 0), .int (nI pol), .int (nI c), .int (nI g), .long (db &&& ((btL p) ^^^ (-1))), .long mb, .int hi, .int mi, .int dv])), (ad 0, .inl (K.2.2.2, 4, .inr (.inr (.inr (.inr (rw4 (ad 1) (ad 3) (ad 5) (ad 7))))))), (ad 1, .inr (0, [.ref (ad 2), .int (nI a.length)])), (ad 2, .inl (K.2.1, 17, .inl f0)), (ad 3, .inr (0, [.ref (ad 4), .int (nI b.length)])), (ad 4, .inl (K.2.1, 17, .inl f1)), (ad 5, .inr (0, [.ref (ad 6), .int (nI d.length)])), (ad 6, .inl (K.2.1, 17, .inl f2)), (ad 7, .inr (0, [.ref (ad 8), .int (nI e.length)])), (ad 8, .inl (K.2.1, 17, .inl f3))]) hX inX1_clean_X1 tyX1 tyX1_ok nmX1 0 rfl rfl 4 (by decide) flX1_clean_31 rfl rfl rfl rfl (Nat.le_of_ble_eq_true rfl) rfl dX1_clean_20 ?_
  refine g_iload_n (pc := 23) hX dX1_clean_23 rfl 0 rfl ?_
  exact hret (v := D p) (u := db &&& (btL p ^^^ (-1))) dX1_clean_24 (⟨rfl, bits_clr hD hp⟩) rfl
def vD (D : Nat → Bool) (o : Option Nat) : Bool := match o with | none => false | some p => D p
def vC (D : Nat → Bool) (o : Option Nat) : Nat → Bool := match o with | none => D | some p => setB D p false
abbrev rmX1_cleanVictim : Room := { frames := 3, cells := 0, slots := 0, locals := 63 }
theorem nX1_cleanV : yX1_clean.cls = RX1 ∧ yX1_clean.cls ≠ "java/lang/invoke/MethodHandle" ∧ yX1_clean.cls ≠ "java/lang/invoke/VarHandle" ∧ (parseMethodDescriptor yX1_clean.desc).map (fun d => d.parameters.length) = some 1 := by decide +kernel
theorem flX1_cleanVictim_44 : Cond.fieldLink RX1 44 "TwoTierCache$Tier" "dirtyVictims" "I" ∈ wsX1_cleanVictim := by decide +kernel
theorem inX1_cleanVictim_X1 : ∀ w ∈ u_ws RX1 TX1 9, w ∈ wsX1_cleanVictim := by decide +kernel
set_option maxHeartbeats 4000000 in
set_option maxRecDepth 100000 in
/-- cleanVictim -/
theorem c_X1_cleanVictim (l : Launch) (K : gT) (h : Nat) (ad : Nat → Nat) (pol c g : Nat) (db mb : Int64) (hi mi dv : Int32) (a b d e : List Nat) (f0 f1 f2 f3 : Nat → Int32) (D : Nat → Bool) (hD : bitsR db D) (o : Option Nat) (ho : ∀ p, o = some p → p < 64) : Ci l yX1_cleanVictim wsX1_cleanVictim rmX1_cleanVictim K [.ref h, .int (pI o)] (tW K h ad pol c g db mb hi mi dv a b d e f0 f1 f2 f3) (fun (r : Int32) (u : Int64 × Int32) => r = bI (vD D o) ∧ bitsR u.1 (vC D o) ∧ u.2 = if vD D o = true then dv + 1 else dv) (fun u => tW K h ad pol c g u.1 mb hi mi u.2 a b d e f0 f1 f2 f3) 0 0 := by
  refine m_z (cc := cX1_cleanVictim) (own := RX1) (maxL := 2) (lv0 := [(0, .ref h), (1, .int (pI o))]) (by decide) rfl rfl (Nat.le_of_ble_eq_true rfl) rfl ?_
  intro X hX hin hret
  refine g_ws (ws' := [(h, .inr (1, [.ref (ad 0), .int (nI pol), .int (nI c), .int (nI g), .long db, .long mb, .int hi, .int mi, .int dv])), (ad 0, .inl (K.2.2.2, 4, .inr (.inr (.inr (.inr (rw4 (ad 1) (ad 3) (ad 5) (ad 7))))))), (ad 1, .inr (0, [.ref (ad 2), .int (nI a.length)])), (ad 2, .inl (K.2.1, 17, .inl f0)), (ad 3, .inr (0, [.ref (ad 4), .int (nI b.length)])), (ad 4, .inl (K.2.1, 17, .inl f1)), (ad 5, .inr (0, [.ref (ad 6), .int (nI d.length)])), (ad 6, .inl (K.2.1, 17, .inl f2)), (ad 7, .inr (0, [.ref (ad 8), .int (nI e.length)])), (ad 8, .inl (K.2.1, 17, .inl f3))]) rfl ?_
  cases o with
  | none =>
    refine g_lv (lv' := [(0, .ref h), (1, .int (-1))]) rfl ?_
    refine g_iload_n (pc := 0) hX dX1_cleanVictim_0 rfl 1 rfl ?_
    refine g_iconst (pc := 1) (v := (-1)) hX dX1_cleanVictim_1 (by decide) ?_
    refine g_icmp_eq (pc := 2) (tgt := 13) hX dX1_cleanVictim_2 (by decide) (fun c2 => ?_) (fun c2 => absurd c2 (fun q => absurd rfl q))
    refine g_iconst (pc := 13) (v := (nI 0)) hX dX1_cleanVictim_13 (by decide) ?_
    refine g_top (y := bI false) (by decide) ?_
    exact hret (v := false) (u := (db, dv)) dX1_cleanVictim_14 (⟨rfl, hD, rfl⟩) rfl
  | some p =>
    refine g_lv (lv' := [(0, .ref h), (1, .int (nI p))]) rfl ?_
    have hp : p < 64 := ho p rfl
    refine g_iload_n (pc := 0) hX dX1_cleanVictim_0 rfl 1 rfl ?_
    refine g_iconst (pc := 1) (v := (-1)) hX dX1_cleanVictim_1 (by decide) ?_
    refine g_icmp_eq (pc := 2) (tgt := 13) hX dX1_cleanVictim_2 (by decide) (fun c2 => absurd c2 (nI_m1 (by omega))) (fun c2 => ?_)
    refine g_aload_n (pc := 5) hX dX1_cleanVictim_5 rfl 0 rfl ?_
    refine g_iload_n (pc := 6) hX dX1_cleanVictim_6 rfl 1 rfl ?_
    refine g_ci (pc := 7) hX (wc := [(h, .inr (1, [.ref (ad 0), .int (nI pol), .int (nI c), .int (nI g), .long db, .long mb, .int hi, .int mi, .int dv])), (ad 0, .inl (K.2.2.2, 4, .inr (.inr (.inr (.inr (rw4 (ad 1) (ad 3) (ad 5) (ad 7))))))), (ad 1, .inr (0, [.ref (ad 2), .int (nI a.length)])), (ad 2, .inl (K.2.1, 17, .inl f0)), (ad 3, .inr (0, [.ref (ad 4), .int (nI b.length)])), (ad 4, .inl (K.2.1, 17, .inl f1)), (ad 5, .inr (0, [.ref (ad 6), .int (nI d.length)])), (ad 6, .inl (K.2.1, 17, .inl f2)), (ad 7, .inr (0, [.ref (ad 8), .int (nI e.length)])), (ad 8, .inl (K.2.1, 17, .inl f3))]) (wr := []) (Wd' := fun u7 => [(h, .inr (1, [.ref (ad 0), .int (nI pol), .int (nI c), .int (nI g), .long u7, .long mb, .int hi, .int mi, .int dv])), (ad 0, .inl (K.2.2.2, 4, .inr (.inr (.inr (.inr (rw4 (ad 1) (ad 3) (ad 5) (ad 7))))))), (ad 1, .inr (0, [.ref (ad 2), .int (nI a.length)])), (ad 2, .inl (K.2.1, 17, .inl f0)), (ad 3, .inr (0, [.ref (ad 4), .int (nI b.length)])), (ad 4, .inl (K.2.1, 17, .inl f1)), (ad 5, .inr (0, [.ref (ad 6), .int (nI d.length)])), (ad 6, .inl (K.2.1, 17, .inl f2)), (ad 7, .inr (0, [.ref (ad 8), .int (nI e.length)])), (ad 8, .inl (K.2.1, 17, .inl f3))]) (g_goV (pc := 7) hX (As := [.int (nI p)]) (stk := []) (wc := [(h, .inr (1, [.ref (ad 0), .int (nI pol), .int (nI c), .int (nI g), .long db, .long mb, .int hi, .int mi, .int dv])), (ad 0, .inl (K.2.2.2, 4, .inr (.inr (.inr (.inr (rw4 (ad 1) (ad 3) (ad 5) (ad 7))))))), (ad 1, .inr (0, [.ref (ad 2), .int (nI a.length)])), (ad 2, .inl (K.2.1, 17, .inl f0)), (ad 3, .inr (0, [.ref (ad 4), .int (nI b.length)])), (ad 4, .inl (K.2.1, 17, .inl f1)), (ad 5, .inr (0, [.ref (ad 6), .int (nI d.length)])), (ad 6, .inl (K.2.1, 17, .inl f2)), (ad 7, .inr (0, [.ref (ad 8), .int (nI e.length)])), (ad 8, .inl (K.2.1, 17, .inl f3))]) (c_X1_clean l K h ad pol c g db mb hi mi dv a b d e f0 f1 f2 f3 D hD p (by omega)) rfl rfl rfl gX1_cleanVictim_X1_clean nX1_cleanV rfl 0 rfl ⟨(Nat.le_of_ble_eq_true rfl), (Nat.le_of_ble_eq_true rfl)⟩ [0, 1, 2, 3, 4, 5, 6, 7, 8, 9] rfl rfl rfl (Nat.le_of_ble_eq_true rfl) dX1_cleanVictim_7 ⟨(Nat.le_of_ble_eq_true rfl), (Nat.le_of_ble_eq_true rfl)⟩) [0, 1, 2, 3, 4, 5, 6, 7, 8, 9] [] [0, 1, 2, 3, 4, 5, 6, 7, 8, 9] rfl rfl rfl (by decide) rfl (fun _ => rfl) (fun r u7 h7 => ?_)
    obtain ⟨rfl, hb7⟩ := h7
    refine g_ifB_ne (pc := 10) (tgt := 15) hX dX1_cleanVictim_10 (by decide) (fun c10 => ?_) (fun c10 => ?_)
    · refine g_aload_n (pc := 15) hX dX1_cleanVictim_15 rfl 0 rfl ?_
      refine g_dup (pc := 16) hX dX1_cleanVictim_16 rfl ?_
      refine g_get (pc := 17) (C := RX1) (T := TX1) (N := 9) (ci := 1) (v := .int dv) hX inX1_cleanVictim_X1 0 rfl rfl 8 (by decide) flX1_cleanVictim_44 rfl rfl dX1_cleanVictim_17 ?_
      refine g_iconst (pc := 20) (v := (nI 1)) hX dX1_cleanVictim_20 (by decide) ?_
      refine g_iadd (pc := 21) (z := dv + 1) hX dX1_cleanVictim_21 rfl ?_
      refine g_put (pc := 22) (C := RX1) (T := TX1) (N := 9) (ci := 1) (v := .int (dv + 1)) (ws' := [(h, .inr (1, [.ref (ad 0), .int (nI pol), .int (nI c), .int (nI g), .long u7, .long mb, .int hi, .int mi, .int (dv + 1)])), (ad 0, .inl (K.2.2.2, 4, .inr (.inr (.inr (.inr (rw4 (ad 1) (ad 3) (ad 5) (ad 7))))))), (ad 1, .inr (0, [.ref (ad 2), .int (nI a.length)])), (ad 2, .inl (K.2.1, 17, .inl f0)), (ad 3, .inr (0, [.ref (ad 4), .int (nI b.length)])), (ad 4, .inl (K.2.1, 17, .inl f1)), (ad 5, .inr (0, [.ref (ad 6), .int (nI d.length)])), (ad 6, .inl (K.2.1, 17, .inl f2)), (ad 7, .inr (0, [.ref (ad 8), .int (nI e.length)])), (ad 8, .inl (K.2.1, 17, .inl f3))]) hX inX1_cleanVictim_X1 tyX1 tyX1_ok nmX1 0 rfl rfl 8 (by decide) flX1_cleanVictim_44 rfl rfl rfl rfl (Nat.le_of_ble_eq_true rfl) rfl dX1_cleanVictim_22 ?_
      refine g_iconst (pc := 25) (v := (nI 1)) hX dX1_cleanVictim_25 (by decide) ?_
      refine g_top (y := bI true) (by decide) ?_
      exact hret (v := true) (u := (u7, dv + 1)) dX1_cleanVictim_26 (by show _ = bI (D p) ∧ _ ∧ _ = if D p = true then _ else _; rw [c10]; exact ⟨rfl, hb7, rfl⟩) rfl
    · refine g_iconst (pc := 13) (v := (nI 0)) hX dX1_cleanVictim_13 (by decide) ?_
      refine g_top (y := bI false) (by decide) ?_
      exact hret (v := false) (u := (u7, dv)) dX1_cleanVictim_14 (by show _ = bI (D p) ∧ _ ∧ _ = if D p = true then _ else _; rw [c10]; exact ⟨rfl, hb7, rfl⟩) rfl
end
