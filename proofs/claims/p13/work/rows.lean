section
-- ===== PART A: goes FIRST, ahead of the names: the tables' words, and 'selects' of the private methods out of them =====
/-- a private method of a class that the tables say can be made, by its rows of tables_1 -/
def lw_okq (q : MethodName × Nat) : Prop := (q.1.cls ≠ "java/lang/invoke/MethodHandle" ∧ q.1.cls ≠ "java/lang/invoke/VarHandle") ∧ Cond.instantiable q.1.cls q.2 ∈ tables_1 ∧ Cond.privateMethod q.1 ∈ tables_1 ∧ Cond.instanceMethod q.1 ∈ tables_1
theorem lw_p0 : lw_okq (⟨"NeighborBook", "tellNothing", "(I)V"⟩, 12) := ⟨⟨by decide +kernel, by decide +kernel⟩, List.mem_of_getElem? (i := 13) (by decide +kernel), List.mem_of_getElem? (i := 202) (by decide +kernel), List.mem_of_getElem? (i := 203) (by decide +kernel)⟩
theorem lw_p1 : lw_okq (⟨"NeighborBook", "hurryAll", "()V"⟩, 12) := ⟨⟨by decide +kernel, by decide +kernel⟩, List.mem_of_getElem? (i := 13) (by decide +kernel), List.mem_of_getElem? (i := 219) (by decide +kernel), List.mem_of_getElem? (i := 220) (by decide +kernel)⟩
theorem lw_p2 : lw_okq (⟨"NeighborBook", "tellTyped", "(I)V"⟩, 12) := ⟨⟨by decide +kernel, by decide +kernel⟩, List.mem_of_getElem? (i := 13) (by decide +kernel), List.mem_of_getElem? (i := 227) (by decide +kernel), List.mem_of_getElem? (i := 228) (by decide +kernel)⟩
theorem lw_p3 : lw_okq (⟨"NeighborBook$SentFrame", "putHead", "(II)V"⟩, 3) := ⟨⟨by decide +kernel, by decide +kernel⟩, List.mem_of_getElem? (i := 95) (by decide +kernel), List.mem_of_getElem? (i := 263) (by decide +kernel), List.mem_of_getElem? (i := 264) (by decide +kernel)⟩
theorem lw_p4 : lw_okq (⟨"NeighborBook$SentFrame", "putByte", "(I)V"⟩, 3) := ⟨⟨by decide +kernel, by decide +kernel⟩, List.mem_of_getElem? (i := 95) (by decide +kernel), List.mem_of_getElem? (i := 267) (by decide +kernel), List.mem_of_getElem? (i := 268) (by decide +kernel)⟩
theorem lw_p5 : lw_okq (⟨"NeighborBook$SentFrame", "putContent", "(ILNeighborBook$Contents;)V"⟩, 3) := ⟨⟨by decide +kernel, by decide +kernel⟩, List.mem_of_getElem? (i := 95) (by decide +kernel), List.mem_of_getElem? (i := 271) (by decide +kernel), List.mem_of_getElem? (i := 272) (by decide +kernel)⟩
theorem lw_p6 : lw_okq (⟨"NeighborBook$FrameReader", "faultOfPart", "(IIII)I"⟩, 2) := ⟨⟨by decide +kernel, by decide +kernel⟩, List.mem_of_getElem? (i := 80) (by decide +kernel), List.mem_of_getElem? (i := 308) (by decide +kernel), List.mem_of_getElem? (i := 309) (by decide +kernel)⟩
theorem lw_p7 : lw_okq (⟨"NeighborBook$FrameReader", "takePart", "(I[BII)V"⟩, 2) := ⟨⟨by decide +kernel, by decide +kernel⟩, List.mem_of_getElem? (i := 80) (by decide +kernel), List.mem_of_getElem? (i := 320) (by decide +kernel), List.mem_of_getElem? (i := 321) (by decide +kernel)⟩
theorem lw_p8 : lw_okq (⟨"NeighborBook", "learn", "(I)I"⟩, 12) := ⟨⟨by decide +kernel, by decide +kernel⟩, List.mem_of_getElem? (i := 13) (by decide +kernel), List.mem_of_getElem? (i := 325) (by decide +kernel), List.mem_of_getElem? (i := 326) (by decide +kernel)⟩
theorem lw_p9 : lw_okq (⟨"NeighborBookModel", "send", "(II)V"⟩, 24) := ⟨⟨by decide +kernel, by decide +kernel⟩, List.mem_of_getElem? (i := 464) (by decide +kernel), List.mem_of_getElem? (i := 563) (by decide +kernel), List.mem_of_getElem? (i := 564) (by decide +kernel)⟩
theorem lw_p10 : lw_okq (⟨"NeighborBookModel", "head", "(II)V"⟩, 24) := ⟨⟨by decide +kernel, by decide +kernel⟩, List.mem_of_getElem? (i := 464) (by decide +kernel), List.mem_of_getElem? (i := 567) (by decide +kernel), List.mem_of_getElem? (i := 568) (by decide +kernel)⟩
theorem lw_p11 : lw_okq (⟨"NeighborBookModel", "put", "(I)V"⟩, 24) := ⟨⟨by decide +kernel, by decide +kernel⟩, List.mem_of_getElem? (i := 464) (by decide +kernel), List.mem_of_getElem? (i := 571) (by decide +kernel), List.mem_of_getElem? (i := 572) (by decide +kernel)⟩
theorem lw_p12 : lw_okq (⟨"NeighborBookModel", "forget", "(I)V"⟩, 24) := ⟨⟨by decide +kernel, by decide +kernel⟩, List.mem_of_getElem? (i := 464) (by decide +kernel), List.mem_of_getElem? (i := 575) (by decide +kernel), List.mem_of_getElem? (i := 576) (by decide +kernel)⟩
theorem lw_p13 : lw_okq (⟨"NeighborBookModel", "move", "(II)V"⟩, 24) := ⟨⟨by decide +kernel, by decide +kernel⟩, List.mem_of_getElem? (i := 464) (by decide +kernel), List.mem_of_getElem? (i := 579) (by decide +kernel), List.mem_of_getElem? (i := 580) (by decide +kernel)⟩
theorem lw_p14 : lw_okq (⟨"NeighborBookModel", "heard", "(I)I"⟩, 24) := ⟨⟨by decide +kernel, by decide +kernel⟩, List.mem_of_getElem? (i := 464) (by decide +kernel), List.mem_of_getElem? (i := 587) (by decide +kernel), List.mem_of_getElem? (i := 588) (by decide +kernel)⟩
theorem lw_p15 : lw_okq (⟨"NeighborBookModel", "parse", "()I"⟩, 24) := ⟨⟨by decide +kernel, by decide +kernel⟩, List.mem_of_getElem? (i := 464) (by decide +kernel), List.mem_of_getElem? (i := 591) (by decide +kernel), List.mem_of_getElem? (i := 592) (by decide +kernel)⟩
def lw_privs_1 : List (MethodName × Nat) := [(⟨"NeighborBook", "tellNothing", "(I)V"⟩, 12), (⟨"NeighborBook", "hurryAll", "()V"⟩, 12), (⟨"NeighborBook", "tellTyped", "(I)V"⟩, 12), (⟨"NeighborBook$SentFrame", "putHead", "(II)V"⟩, 3), (⟨"NeighborBook$SentFrame", "putByte", "(I)V"⟩, 3), (⟨"NeighborBook$SentFrame", "putContent", "(ILNeighborBook$Contents;)V"⟩, 3), (⟨"NeighborBook$FrameReader", "faultOfPart", "(IIII)I"⟩, 2), (⟨"NeighborBook$FrameReader", "takePart", "(I[BII)V"⟩, 2), (⟨"NeighborBook", "learn", "(I)I"⟩, 12), (⟨"NeighborBookModel", "send", "(II)V"⟩, 24), (⟨"NeighborBookModel", "head", "(II)V"⟩, 24), (⟨"NeighborBookModel", "put", "(I)V"⟩, 24), (⟨"NeighborBookModel", "forget", "(I)V"⟩, 24), (⟨"NeighborBookModel", "move", "(II)V"⟩, 24), (⟨"NeighborBookModel", "heard", "(I)I"⟩, 24), (⟨"NeighborBookModel", "parse", "()I"⟩, 24)]
theorem lw_r1 : ∀ q ∈ lw_privs_1, lw_okq q := List.forall_mem_cons.mpr ⟨lw_p0, List.forall_mem_cons.mpr ⟨lw_p1, List.forall_mem_cons.mpr ⟨lw_p2, List.forall_mem_cons.mpr ⟨lw_p3, List.forall_mem_cons.mpr ⟨lw_p4, List.forall_mem_cons.mpr ⟨lw_p5, List.forall_mem_cons.mpr ⟨lw_p6, List.forall_mem_cons.mpr ⟨lw_p7, List.forall_mem_cons.mpr ⟨lw_p8, List.forall_mem_cons.mpr ⟨lw_p9, List.forall_mem_cons.mpr ⟨lw_p10, List.forall_mem_cons.mpr ⟨lw_p11, List.forall_mem_cons.mpr ⟨lw_p12, List.forall_mem_cons.mpr ⟨lw_p13, List.forall_mem_cons.mpr ⟨lw_p14, List.forall_mem_cons.mpr ⟨lw_p15, fun _ h => absurd h List.not_mem_nil⟩⟩⟩⟩⟩⟩⟩⟩⟩⟩⟩⟩⟩⟩⟩⟩
theorem lw_p16 : lw_okq (⟨"NeighborBookModel", "isAlike", "(II)Z"⟩, 24) := ⟨⟨by decide +kernel, by decide +kernel⟩, List.mem_of_getElem? (i := 464) (by decide +kernel), List.mem_of_getElem? (i := 595) (by decide +kernel), List.mem_of_getElem? (i := 596) (by decide +kernel)⟩
def lw_privs_2 : List (MethodName × Nat) := [(⟨"NeighborBookModel", "isAlike", "(II)Z"⟩, 24)]
theorem lw_r2 : ∀ q ∈ lw_privs_2, lw_okq q := List.forall_mem_cons.mpr ⟨lw_p16, fun _ h => absurd h List.not_mem_nil⟩
def lw_privs : List (MethodName × Nat) := lw_privs_1 ++ (lw_privs_2)
def lw_tbl : List Cond := k2_sels lw_privs ++ tables_1
theorem lw_privs_ok : ∀ q ∈ lw_privs, lw_okq q := by
  show ∀ q ∈ lw_privs_1 ++ (lw_privs_2), lw_okq q
  exact List.forall_mem_append.mpr ⟨lw_r1, lw_r2⟩
end
section
/-! ===== BEGIN words of one list among another's, by their places ===== -/
theorem goodIn_r {big : List Cond} (ws : List Cond) (ps : List Nat) (hp : ws = ps.filterMap (fun i => big[i]?)) (h : ws.all goodWord = true) : GoodIn big ws := by
  intro w hw
  have h1 := List.all_eq_true.mp h w hw
  rw [hp] at hw
  obtain ⟨i, -, hi⟩ := List.mem_filterMap.mp hw
  have hm : w ∈ big := by first | exact List.mem_of_getElem? hi | exact List.getElem?_mem hi
  exact ⟨hm, good_of_word h1⟩
theorem goodIn_app {big a b : List Cond} (ha : GoodIn big a) (hb : GoodIn big b) : GoodIn big (a ++ b) := fun w h => (List.mem_append.mp h).elim (ha w) (hb w)
theorem goodIn_ca {big a b : List Cond} {c : Cond} (ha : GoodIn big (c :: a)) (hb : GoodIn big b) : GoodIn big (c :: (a ++ b)) := fun w h => (List.mem_cons.mp h).elim (fun e => ha w (List.mem_cons.mpr (Or.inl e))) (fun h => (List.mem_append.mp h).elim (fun h => ha w (List.mem_cons.mpr (Or.inr h))) (hb w))
theorem goodIn_sub {big ws : List Cond} (hm : ∀ w ∈ ws, w ∈ big) (h : ws.all goodWord = true) : GoodIn big ws := fun w hw => ⟨hm w hw, good_of_word (List.all_eq_true.mp h w hw)⟩
/-! ===== END ===== -/

/-! ===== BEGIN printed: names, fields, word lists, decode rows ===== -/
def RX0 : String := "NeighborBook$Contents"
def TX0 : u_T := fun k => match k with
  | 0 => ("NeighborBook$Contents", "sizes", "[I", true)
  | _ => ("NeighborBook$Contents", "bytes", "[B", true)
def tyX0 : Nat → FieldType := fun k => match k with
  | 0 => .array .int
  | _ => .array .byte
abbrev wsX00 : List Cond := u_ws RX0 TX0 2
theorem nmX0 : ∀ a, a < 2 → ∀ b, b < 2 → a ≠ b → (TX0 a).2.1 ≠ (TX0 b).2.1 := by decide +kernel
theorem tyX0_ok : ∀ k, k < 2 → parseFieldDescriptor (TX0 k).2.2.1 = some (tyX0 k) := by decide +kernel
abbrev cX0_init : ByteArray := prog_2_method_1_code
def yX0_init : MethodName := ⟨RX0, "<init>", "()V"⟩
abbrev cX0_isKept : ByteArray := prog_2_method_2_code
def yX0_isKept : MethodName := ⟨RX0, "isKept", "(I)Z"⟩
abbrev cX0_startOf : ByteArray := prog_2_method_3_code
def yX0_startOf : MethodName := ⟨RX0, "startOf", "(I)I"⟩
abbrev cX0_clear : ByteArray := prog_2_method_4_code
def yX0_clear : MethodName := ⟨RX0, "clear", "()V"⟩
abbrev cX0_keep : ByteArray := prog_2_method_5_code
def yX0_keep : MethodName := ⟨RX0, "keep", "(I[BII)V"⟩
abbrev cX0_drop : ByteArray := prog_2_method_6_code
def yX0_drop : MethodName := ⟨RX0, "drop", "(I)V"⟩
abbrev cX0_has : ByteArray := prog_2_method_7_code
def yX0_has : MethodName := ⟨RX0, "has", "(I)Z"⟩
abbrev cX0_sizeOf : ByteArray := prog_2_method_8_code
def yX0_sizeOf : MethodName := ⟨RX0, "sizeOf", "(I)I"⟩
abbrev cX0_byteAt : ByteArray := prog_2_method_9_code
def yX0_byteAt : MethodName := ⟨RX0, "byteAt", "(II)I"⟩
abbrev cX0_isSame : ByteArray := prog_2_method_10_code
def yX0_isSame : MethodName := ⟨RX0, "isSame", "(I[BII)Z"⟩
abbrev cX0_isSameStation : ByteArray := prog_2_method_11_code
def yX0_isSameStation : MethodName := ⟨RX0, "isSameStation", "(LNeighborBook$Contents;)Z"⟩
abbrev cX0_typeBits : ByteArray := prog_2_method_12_code
def yX0_typeBits : MethodName := ⟨RX0, "typeBits", "()I"⟩
def RX1 : String := "NeighborBook$FrameReader"
def TX1 : u_T := fun k => match k with
  | 0 => ("NeighborBook$FrameReader", "contents", "LNeighborBook$Contents;", false)
  | _ => ("NeighborBook$FrameReader", "held", "I", false)
def tyX1 : Nat → FieldType := fun k => match k with
  | 0 => .object "NeighborBook$Contents"
  | _ => .int
abbrev wsX10 : List Cond := u_ws RX1 TX1 2
theorem nmX1 : ∀ a, a < 2 → ∀ b, b < 2 → a ≠ b → (TX1 a).2.1 ≠ (TX1 b).2.1 := by decide +kernel
theorem tyX1_ok : ∀ k, k < 2 → parseFieldDescriptor (TX1 k).2.2.1 = some (tyX1 k) := by decide +kernel
abbrev cX1_init : ByteArray := prog_3_method_1_code
def yX1_init : MethodName := ⟨RX1, "<init>", "()V"⟩
abbrev cX1_contents : ByteArray := prog_3_method_2_code
def yX1_contents : MethodName := ⟨RX1, "contents", "()LNeighborBook$Contents;"⟩
abbrev cX1_held : ByteArray := prog_3_method_3_code
def yX1_held : MethodName := ⟨RX1, "held", "()I"⟩
abbrev cX1_useNext : ByteArray := prog_3_method_4_code
def yX1_useNext : MethodName := ⟨RX1, "useNext", "(LNeighborBook$Contents;)V"⟩
abbrev cX1_read : ByteArray := prog_3_method_5_code
def yX1_read : MethodName := ⟨RX1, "read", "([BI)I"⟩
abbrev cX1_faultOfPart : ByteArray := prog_3_method_6_code
def yX1_faultOfPart : MethodName := ⟨RX1, "faultOfPart", "(IIII)I"⟩
abbrev cX1_isOutOfOrder : ByteArray := prog_3_method_7_code
def yX1_isOutOfOrder : MethodName := ⟨RX1, "isOutOfOrder", "(II)Z"⟩
abbrev cX1_isWrongSize : ByteArray := prog_3_method_8_code
def yX1_isWrongSize : MethodName := ⟨RX1, "isWrongSize", "(II)Z"⟩
abbrev cX1_takePart : ByteArray := prog_3_method_9_code
def yX1_takePart : MethodName := ⟨RX1, "takePart", "(I[BII)V"⟩
abbrev cX1_pairAt : ByteArray := prog_3_method_10_code
def yX1_pairAt : MethodName := ⟨RX1, "pairAt", "([BI)I"⟩
def RX2 : String := "NeighborBook$Neighbor"
def TX2 : u_T := fun k => match k with
  | 0 => ("NeighborBook$Neighbor", "contents", "LNeighborBook$Contents;", false)
  | 1 => ("NeighborBook$Neighbor", "port", "I", false)
  | 2 => ("NeighborBook$Neighbor", "ticksLeft", "I", false)
  | _ => ("NeighborBook$Neighbor", "frames", "I", false)
def tyX2 : Nat → FieldType := fun k => match k with
  | 0 => .object "NeighborBook$Contents"
  | 1 => .int
  | 2 => .int
  | _ => .int
abbrev wsX20 : List Cond := u_ws RX2 TX2 4
theorem nmX2 : ∀ a, a < 4 → ∀ b, b < 4 → a ≠ b → (TX2 a).2.1 ≠ (TX2 b).2.1 := by decide +kernel
theorem tyX2_ok : ∀ k, k < 4 → parseFieldDescriptor (TX2 k).2.2.1 = some (tyX2 k) := by decide +kernel
abbrev cX2_init : ByteArray := prog_4_method_1_code
def yX2_init : MethodName := ⟨RX2, "<init>", "()V"⟩
abbrev cX2_contents : ByteArray := prog_4_method_2_code
def yX2_contents : MethodName := ⟨RX2, "contents", "()LNeighborBook$Contents;"⟩
abbrev cX2_portOf : ByteArray := prog_4_method_3_code
def yX2_portOf : MethodName := ⟨RX2, "portOf", "()I"⟩
abbrev cX2_begin : ByteArray := prog_4_method_4_code
def yX2_begin : MethodName := ⟨RX2, "begin", "(I)V"⟩
abbrev cX2_renew : ByteArray := prog_4_method_5_code
def yX2_renew : MethodName := ⟨RX2, "renew", "(LNeighborBook$Contents;I)LNeighborBook$Contents;"⟩
abbrev cX2_passTick : ByteArray := prog_4_method_6_code
def yX2_passTick : MethodName := ⟨RX2, "passTick", "()Z"⟩
abbrev cX2_tellAbout : ByteArray := prog_4_method_7_code
def yX2_tellAbout : MethodName := ⟨RX2, "tellAbout", "(I)I"⟩
def RX3 : String := "NeighborBook$Neighbors"
def TX3 : u_T := fun k => match k with
  | 0 => ("NeighborBook$Neighbors", "rows", "[LNeighborBook$Neighbor;", true)
  | _ => ("NeighborBook$Neighbors", "size", "I", false)
def tyX3 : Nat → FieldType := fun k => match k with
  | 0 => .array (.object "NeighborBook$Neighbor")
  | _ => .int
abbrev wsX30 : List Cond := u_ws RX3 TX3 2
theorem nmX3 : ∀ a, a < 2 → ∀ b, b < 2 → a ≠ b → (TX3 a).2.1 ≠ (TX3 b).2.1 := by decide +kernel
theorem tyX3_ok : ∀ k, k < 2 → parseFieldDescriptor (TX3 k).2.2.1 = some (tyX3 k) := by decide +kernel
abbrev cX3_init : ByteArray := prog_5_method_1_code
def yX3_init : MethodName := ⟨RX3, "<init>", "()V"⟩
abbrev cX3_size : ByteArray := prog_5_method_2_code
def yX3_size : MethodName := ⟨RX3, "size", "()I"⟩
abbrev cX3_has : ByteArray := prog_5_method_3_code
def yX3_has : MethodName := ⟨RX3, "has", "(I)Z"⟩
abbrev cX3_at : ByteArray := prog_5_method_4_code
def yX3_at : MethodName := ⟨RX3, "at", "(I)LNeighborBook$Neighbor;"⟩
abbrev cX3_sizeAt : ByteArray := prog_5_method_5_code
def yX3_sizeAt : MethodName := ⟨RX3, "sizeAt", "(I)I"⟩
abbrev cX3_find : ByteArray := prog_5_method_6_code
def yX3_find : MethodName := ⟨RX3, "find", "(ILNeighborBook$Contents;)I"⟩
abbrev cX3_add : ByteArray := prog_5_method_7_code
def yX3_add : MethodName := ⟨RX3, "add", "(I)I"⟩
abbrev cX3_forget : ByteArray := prog_5_method_8_code
def yX3_forget : MethodName := ⟨RX3, "forget", "(I)V"⟩
abbrev cX3_forgetAllAt : ByteArray := prog_5_method_9_code
def yX3_forgetAllAt : MethodName := ⟨RX3, "forgetAllAt", "(I)V"⟩
abbrev cX3_passTick : ByteArray := prog_5_method_10_code
def yX3_passTick : MethodName := ⟨RX3, "passTick", "()V"⟩
def RX4 : String := "NeighborBook$Port"
def TX4 : u_T := fun k => match k with
  | 0 => ("NeighborBook$Port", "up", "Z", false)
  | 1 => ("NeighborBook$Port", "waitLeft", "I", false)
  | 2 => ("NeighborBook$Port", "quickLeft", "I", false)
  | 3 => ("NeighborBook$Port", "framesSent", "I", false)
  | 4 => ("NeighborBook$Port", "heardWell", "I", false)
  | _ => ("NeighborBook$Port", "heardFaulty", "I", false)
def tyX4 : Nat → FieldType := fun k => match k with
  | 0 => .boolean
  | 1 => .int
  | 2 => .int
  | 3 => .int
  | 4 => .int
  | _ => .int
abbrev wsX40 : List Cond := u_ws RX4 TX4 6
theorem nmX4 : ∀ a, a < 6 → ∀ b, b < 6 → a ≠ b → (TX4 a).2.1 ≠ (TX4 b).2.1 := by decide +kernel
theorem tyX4_ok : ∀ k, k < 6 → parseFieldDescriptor (TX4 k).2.2.1 = some (tyX4 k) := by decide +kernel
abbrev cX4_init : ByteArray := prog_6_method_1_code
def yX4_init : MethodName := ⟨RX4, "<init>", "()V"⟩
abbrev cX4_isUp : ByteArray := prog_6_method_2_code
def yX4_isUp : MethodName := ⟨RX4, "isUp", "()Z"⟩
abbrev cX4_goUp : ByteArray := prog_6_method_3_code
def yX4_goUp : MethodName := ⟨RX4, "goUp", "(I)V"⟩
abbrev cX4_goDown : ByteArray := prog_6_method_4_code
def yX4_goDown : MethodName := ⟨RX4, "goDown", "()V"⟩
abbrev cX4_hurry : ByteArray := prog_6_method_5_code
def yX4_hurry : MethodName := ⟨RX4, "hurry", "()V"⟩
abbrev cX4_greet : ByteArray := prog_6_method_6_code
def yX4_greet : MethodName := ⟨RX4, "greet", "(I)V"⟩
abbrev cX4_noteHeard : ByteArray := prog_6_method_7_code
def yX4_noteHeard : MethodName := ⟨RX4, "noteHeard", "(Z)V"⟩
abbrev cX4_passTick : ByteArray := prog_6_method_8_code
def yX4_passTick : MethodName := ⟨RX4, "passTick", "(I)Z"⟩
abbrev cX4_tellAbout : ByteArray := prog_6_method_9_code
def yX4_tellAbout : MethodName := ⟨RX4, "tellAbout", "(I)I"⟩
def RX5 : String := "NeighborBook$SentFrame"
def TX5 : u_T := fun k => match k with
  | 0 => ("NeighborBook$SentFrame", "bytes", "[B", true)
  | 1 => ("NeighborBook$SentFrame", "length", "I", false)
  | _ => ("NeighborBook$SentFrame", "port", "I", false)
def tyX5 : Nat → FieldType := fun k => match k with
  | 0 => .array .byte
  | 1 => .int
  | _ => .int
abbrev wsX50 : List Cond := u_ws RX5 TX5 3
theorem nmX5 : ∀ a, a < 3 → ∀ b, b < 3 → a ≠ b → (TX5 a).2.1 ≠ (TX5 b).2.1 := by decide +kernel
theorem tyX5_ok : ∀ k, k < 3 → parseFieldDescriptor (TX5 k).2.2.1 = some (tyX5 k) := by decide +kernel
abbrev cX5_init : ByteArray := prog_7_method_1_code
def yX5_init : MethodName := ⟨RX5, "<init>", "()V"⟩
abbrev cX5_length : ByteArray := prog_7_method_2_code
def yX5_length : MethodName := ⟨RX5, "length", "()I"⟩
abbrev cX5_portOf : ByteArray := prog_7_method_3_code
def yX5_portOf : MethodName := ⟨RX5, "portOf", "()I"⟩
abbrev cX5_byteAt : ByteArray := prog_7_method_4_code
def yX5_byteAt : MethodName := ⟨RX5, "byteAt", "(I)I"⟩
abbrev cX5_write : ByteArray := prog_7_method_5_code
def yX5_write : MethodName := ⟨RX5, "write", "(ILNeighborBook$Contents;I)V"⟩
abbrev cX5_putHead : ByteArray := prog_7_method_6_code
def yX5_putHead : MethodName := ⟨RX5, "putHead", "(II)V"⟩
abbrev cX5_putContent : ByteArray := prog_7_method_7_code
def yX5_putContent : MethodName := ⟨RX5, "putContent", "(ILNeighborBook$Contents;)V"⟩
abbrev cX5_putByte : ByteArray := prog_7_method_8_code
def yX5_putByte : MethodName := ⟨RX5, "putByte", "(I)V"⟩
def RX6 : String := "NeighborBook"
def TX6 : u_T := fun k => match k with
  | 0 => ("NeighborBook", "typed", "[B", true)
  | 1 => ("NeighborBook", "typedCount", "I", false)
  | 2 => ("NeighborBook", "told", "LNeighborBook$Contents;", true)
  | 3 => ("NeighborBook", "ports", "[LNeighborBook$Port;", true)
  | 4 => ("NeighborBook", "known", "LNeighborBook$Neighbors;", true)
  | 5 => ("NeighborBook", "reader", "LNeighborBook$FrameReader;", true)
  | 6 => ("NeighborBook", "latest", "LNeighborBook$SentFrame;", true)
  | 7 => ("NeighborBook", "interval", "I", false)
  | 8 => ("NeighborBook", "hold", "I", false)
  | 9 => ("NeighborBook", "quick", "I", false)
  | 10 => ("NeighborBook", "ticks", "I", false)
  | _ => ("NeighborBook", "latestFault", "I", false)
def tyX6 : Nat → FieldType := fun k => match k with
  | 0 => .array .byte
  | 1 => .int
  | 2 => .object "NeighborBook$Contents"
  | 3 => .array (.object "NeighborBook$Port")
  | 4 => .object "NeighborBook$Neighbors"
  | 5 => .object "NeighborBook$FrameReader"
  | 6 => .object "NeighborBook$SentFrame"
  | 7 => .int
  | 8 => .int
  | 9 => .int
  | 10 => .int
  | _ => .int
abbrev wsX60 : List Cond := u_ws RX6 TX6 12
theorem nmX6 : ∀ a, a < 12 → ∀ b, b < 12 → a ≠ b → (TX6 a).2.1 ≠ (TX6 b).2.1 := by decide +kernel
theorem tyX6_ok : ∀ k, k < 12 → parseFieldDescriptor (TX6 k).2.2.1 = some (tyX6 k) := by decide +kernel
abbrev cX6_init : ByteArray := prog_1_method_1_code
def yX6_init : MethodName := ⟨RX6, "<init>", "()V"⟩
abbrev cX6_type : ByteArray := prog_1_method_2_code
def yX6_type : MethodName := ⟨RX6, "type", "(JI)I"⟩
abbrev cX6_tell : ByteArray := prog_1_method_3_code
def yX6_tell : MethodName := ⟨RX6, "tell", "(I)I"⟩
abbrev cX6_set : ByteArray := prog_1_method_4_code
def yX6_set : MethodName := ⟨RX6, "set", "(II)I"⟩
abbrev cX6_port : ByteArray := prog_1_method_5_code
def yX6_port : MethodName := ⟨RX6, "port", "(II)I"⟩
abbrev cX6_hear : ByteArray := prog_1_method_6_code
def yX6_hear : MethodName := ⟨RX6, "hear", "(I)I"⟩
abbrev cX6_tick : ByteArray := prog_1_method_7_code
def yX6_tick : MethodName := ⟨RX6, "tick", "(I)I"⟩
abbrev cX6_about : ByteArray := prog_1_method_8_code
def yX6_about : MethodName := ⟨RX6, "about", "(II)I"⟩
abbrev cX6_count : ByteArray := prog_1_method_9_code
def yX6_count : MethodName := ⟨RX6, "count", "(I)I"⟩
abbrev cX6_sent : ByteArray := prog_1_method_10_code
def yX6_sent : MethodName := ⟨RX6, "sent", "(I)I"⟩
abbrev cX6_neighbor : ByteArray := prog_1_method_11_code
def yX6_neighbor : MethodName := ⟨RX6, "neighbor", "(II)I"⟩
abbrev cX6_content : ByteArray := prog_1_method_12_code
def yX6_content : MethodName := ⟨RX6, "content", "(III)I"⟩
abbrev cX6_check : ByteArray := prog_1_method_13_code
def yX6_check : MethodName := ⟨RX6, "check", "()I"⟩
abbrev cX6_isPort : ByteArray := prog_1_method_14_code
def yX6_isPort : MethodName := ⟨RX6, "isPort", "(I)Z"⟩
abbrev cX6_isTellable : ByteArray := prog_1_method_15_code
def yX6_isTellable : MethodName := ⟨RX6, "isTellable", "(II)Z"⟩
abbrev cX6_isMore : ByteArray := prog_1_method_16_code
def yX6_isMore : MethodName := ⟨RX6, "isMore", "(I)Z"⟩
abbrev cX6_tellNothing : ByteArray := prog_1_method_17_code
def yX6_tellNothing : MethodName := ⟨RX6, "tellNothing", "(I)V"⟩
abbrev cX6_tellTyped : ByteArray := prog_1_method_18_code
def yX6_tellTyped : MethodName := ⟨RX6, "tellTyped", "(I)V"⟩
abbrev cX6_hurryAll : ByteArray := prog_1_method_19_code
def yX6_hurryAll : MethodName := ⟨RX6, "hurryAll", "()V"⟩
abbrev cX6_learn : ByteArray := prog_1_method_20_code
def yX6_learn : MethodName := ⟨RX6, "learn", "(I)I"⟩
def RX7 : String := "NeighborBookModel"
def TX7 : u_T := fun k => match k with
  | 0 => ("NeighborBookModel", "typed", "[B", true)
  | 1 => ("NeighborBookModel", "typedSize", "I", false)
  | 2 => ("NeighborBookModel", "own", "[B", true)
  | 3 => ("NeighborBookModel", "ownSizes", "[I", true)
  | 4 => ("NeighborBookModel", "interval", "I", false)
  | 5 => ("NeighborBookModel", "hold", "I", false)
  | 6 => ("NeighborBookModel", "quick", "I", false)
  | 7 => ("NeighborBookModel", "up", "[Z", true)
  | 8 => ("NeighborBookModel", "sentFrames", "[I", true)
  | 9 => ("NeighborBookModel", "good", "[I", true)
  | 10 => ("NeighborBookModel", "bad", "[I", true)
  | 11 => ("NeighborBookModel", "waits", "[I", true)
  | 12 => ("NeighborBookModel", "quicks", "[I", true)
  | 13 => ("NeighborBookModel", "known", "I", false)
  | 14 => ("NeighborBookModel", "ports", "[I", true)
  | 15 => ("NeighborBookModel", "left", "[I", true)
  | 16 => ("NeighborBookModel", "frames", "[I", true)
  | 17 => ("NeighborBookModel", "bytes", "[B", true)
  | 18 => ("NeighborBookModel", "sizes", "[I", true)
  | 19 => ("NeighborBookModel", "ticks", "I", false)
  | 20 => ("NeighborBookModel", "fault", "I", false)
  | 21 => ("NeighborBookModel", "page", "[B", true)
  | 22 => ("NeighborBookModel", "pageSize", "I", false)
  | _ => ("NeighborBookModel", "pagePort", "I", false)
def tyX7 : Nat → FieldType := fun k => match k with
  | 0 => .array .byte
  | 1 => .int
  | 2 => .array .byte
  | 3 => .array .int
  | 4 => .int
  | 5 => .int
  | 6 => .int
  | 7 => .array .boolean
  | 8 => .array .int
  | 9 => .array .int
  | 10 => .array .int
  | 11 => .array .int
  | 12 => .array .int
  | 13 => .int
  | 14 => .array .int
  | 15 => .array .int
  | 16 => .array .int
  | 17 => .array .byte
  | 18 => .array .int
  | 19 => .int
  | 20 => .int
  | 21 => .array .byte
  | 22 => .int
  | _ => .int
abbrev wsX70 : List Cond := u_ws RX7 TX7 24
theorem nmX7 : ∀ a, a < 24 → ∀ b, b < 24 → a ≠ b → (TX7 a).2.1 ≠ (TX7 b).2.1 := by decide +kernel
theorem tyX7_ok : ∀ k, k < 24 → parseFieldDescriptor (TX7 k).2.2.1 = some (tyX7 k) := by decide +kernel
abbrev cX7_init : ByteArray := prog_9_method_1_code
def yX7_init : MethodName := ⟨RX7, "<init>", "()V"⟩
abbrev cX7_isMore : ByteArray := prog_9_method_2_code
def yX7_isMore : MethodName := ⟨RX7, "isMore", "(I)Z"⟩
abbrev cX7_type : ByteArray := prog_9_method_3_code
def yX7_type : MethodName := ⟨RX7, "type", "(JI)I"⟩
abbrev cX7_tell : ByteArray := prog_9_method_4_code
def yX7_tell : MethodName := ⟨RX7, "tell", "(I)I"⟩
abbrev cX7_set : ByteArray := prog_9_method_5_code
def yX7_set : MethodName := ⟨RX7, "set", "(II)I"⟩
abbrev cX7_put : ByteArray := prog_9_method_6_code
def yX7_put : MethodName := ⟨RX7, "put", "(I)V"⟩
abbrev cX7_head : ByteArray := prog_9_method_7_code
def yX7_head : MethodName := ⟨RX7, "head", "(II)V"⟩
abbrev cX7_send : ByteArray := prog_9_method_8_code
def yX7_send : MethodName := ⟨RX7, "send", "(II)V"⟩
abbrev cX7_port : ByteArray := prog_9_method_9_code
def yX7_port : MethodName := ⟨RX7, "port", "(II)I"⟩
abbrev cX7_move : ByteArray := prog_9_method_10_code
def yX7_move : MethodName := ⟨RX7, "move", "(II)V"⟩
abbrev cX7_forget : ByteArray := prog_9_method_11_code
def yX7_forget : MethodName := ⟨RX7, "forget", "(I)V"⟩
abbrev cX7_isAlike : ByteArray := prog_9_method_12_code
def yX7_isAlike : MethodName := ⟨RX7, "isAlike", "(II)Z"⟩
abbrev cX7_parse : ByteArray := prog_9_method_13_code
def yX7_parse : MethodName := ⟨RX7, "parse", "()I"⟩
abbrev cX7_heard : ByteArray := prog_9_method_14_code
def yX7_heard : MethodName := ⟨RX7, "heard", "(I)I"⟩
abbrev cX7_hear : ByteArray := prog_9_method_15_code
def yX7_hear : MethodName := ⟨RX7, "hear", "(I)I"⟩
abbrev cX7_tick : ByteArray := prog_9_method_16_code
def yX7_tick : MethodName := ⟨RX7, "tick", "(I)I"⟩
abbrev cX7_about : ByteArray := prog_9_method_17_code
def yX7_about : MethodName := ⟨RX7, "about", "(II)I"⟩
abbrev cX7_count : ByteArray := prog_9_method_18_code
def yX7_count : MethodName := ⟨RX7, "count", "(I)I"⟩
abbrev cX7_sent : ByteArray := prog_9_method_19_code
def yX7_sent : MethodName := ⟨RX7, "sent", "(I)I"⟩
abbrev cX7_neighbor : ByteArray := prog_9_method_20_code
def yX7_neighbor : MethodName := ⟨RX7, "neighbor", "(II)I"⟩
abbrev cX7_content : ByteArray := prog_9_method_21_code
def yX7_content : MethodName := ⟨RX7, "content", "(III)I"⟩
abbrev cX7_check : ByteArray := prog_9_method_22_code
def yX7_check : MethodName := ⟨RX7, "check", "()I"⟩
def RJ9 : String := "java/lang/Math"
def TJ9 : u_T := fun k => match k with
  | _ => ("", "", "", false)
def tyJ9 : Nat → FieldType := fun k => match k with
  | _ => .int
abbrev wsJ90 : List Cond := u_ws RJ9 TJ9 0
theorem nmJ9 : ∀ a, a < 0 → ∀ b, b < 0 → a ≠ b → (TJ9 a).2.1 ≠ (TJ9 b).2.1 := by decide +kernel
theorem tyJ9_ok : ∀ k, k < 0 → parseFieldDescriptor (TJ9 k).2.2.1 = some (tyJ9 k) := by decide +kernel
abbrev cJ9_max_7cf53 : ByteArray := prog_10_method_65_code
def yJ9_max_7cf53 : MethodName := ⟨RJ9, "max", "(II)I"⟩
abbrev cJ9_min_7cf53 : ByteArray := prog_10_method_69_code
def yJ9_min_7cf53 : MethodName := ⟨RJ9, "min", "(II)I"⟩
def RJ10 : String := "java/lang/System"
def TJ10 : u_T := fun k => match k with
  | _ => ("", "", "", false)
def tyJ10 : Nat → FieldType := fun k => match k with
  | _ => .int
abbrev wsJ100 : List Cond := u_ws RJ10 TJ10 0
theorem nmJ10 : ∀ a, a < 0 → ∀ b, b < 0 → a ≠ b → (TJ10 a).2.1 ≠ (TJ10 b).2.1 := by decide +kernel
theorem tyJ10_ok : ∀ k, k < 0 → parseFieldDescriptor (TJ10 k).2.2.1 = some (tyJ10 k) := by decide +kernel
def RJ7 : String := "java/util/Arrays"
def TJ7 : u_T := fun k => match k with
  | _ => ("", "", "", false)
def tyJ7 : Nat → FieldType := fun k => match k with
  | _ => .int
abbrev wsJ70 : List Cond := u_ws RJ7 TJ7 0
theorem nmJ7 : ∀ a, a < 0 → ∀ b, b < 0 → a ≠ b → (TJ7 a).2.1 ≠ (TJ7 b).2.1 := by decide +kernel
theorem tyJ7_ok : ∀ k, k < 0 → parseFieldDescriptor (TJ7 k).2.2.1 = some (tyJ7 k) := by decide +kernel
abbrev cJ7_fill_53178 : ByteArray := prog_12_method_103_code
def yJ7_fill_53178 : MethodName := ⟨RJ7, "fill", "([II)V"⟩
def RL : String := "NeighborBookLaw"
abbrev cL_law : ByteArray := code
def yL_law : MethodName := ⟨RL, "law", "([I)Z"⟩
def wsJ7_fill_53178 : List Cond := .code yJ7_fill_53178 cJ7_fill_53178 4 none :: ([])
def wsX0_clear : List Cond := .code yX0_clear cX0_clear 1 none :: ([.fieldLink RX0 9 "NeighborBook$Contents" "sizes" "[I", .methodLink RX0 26 yJ7_fill_53178, .static yJ7_fill_53178, .initialized RJ7, .code yJ7_fill_53178 cJ7_fill_53178 4 none] ++ wsX00)
def wsX0_init : List Cond := .code yX0_init cX0_init 1 none :: ([.methodLink RX0 3 objectInit, .instanceMethod objectInit, .code objectInit ⟨#[0xb1]⟩ 1 none, .arrayClass .int, .fieldLink RX0 9 "NeighborBook$Contents" "sizes" "[I", .arrayClass .byte, .fieldLink RX0 15 "NeighborBook$Contents" "bytes" "[B", .methodLink RX0 19 yX0_clear, .instanceMethod yX0_clear, .selects RX0 yX0_clear yX0_clear, .initialized RX0, .code yX0_clear cX0_clear 1 none, .methodLink RX0 26 yJ7_fill_53178, .static yJ7_fill_53178, .initialized RJ7, .code yJ7_fill_53178 cJ7_fill_53178 4 none] ++ wsX00)
def wsX6_isMore : List Cond := .code yX6_isMore cX6_isMore 1 (some .boolean) :: ([])
def wsX0_isKept : List Cond := .code yX0_isKept cX0_isKept 1 (some .boolean) :: ([.static yX6_isMore, .initialized RX6, .code yX6_isMore cX6_isMore 1 (some .boolean)])
def wsX0_startOf : List Cond := .code yX0_startOf cX0_startOf 1 (some .int) :: ([])
def wsX0_keep : List Cond := .code yX0_keep cX0_keep 5 none :: ([.fieldLink RX0 15 "NeighborBook$Contents" "bytes" "[B", .methodLink RX0 39 arraycopyName, .native arraycopyName, .static arraycopyName, .initialized "java/lang/System", .fieldLink RX0 9 "NeighborBook$Contents" "sizes" "[I", .methodLink RX0 32 yX0_isKept, .static yX0_isKept, .initialized RX0, .code yX0_isKept cX0_isKept 1 (some .boolean), .static yX6_isMore, .initialized RX6, .code yX6_isMore cX6_isMore 1 (some .boolean), .methodLink RX0 35 yX0_startOf, .static yX0_startOf, .code yX0_startOf cX0_startOf 1 (some .int)] ++ wsX00)
def wsX0_sizeOf : List Cond := .code yX0_sizeOf cX0_sizeOf 2 (some .int) :: ([.fieldLink RX0 9 "NeighborBook$Contents" "sizes" "[I"] ++ wsX00)
def wsX0_has : List Cond := .code yX0_has cX0_has 2 (some .boolean) :: ([.methodLink RX0 48 yX0_sizeOf, .instanceMethod yX0_sizeOf, .selects RX0 yX0_sizeOf yX0_sizeOf, .initialized RX0, .code yX0_sizeOf cX0_sizeOf 2 (some .int), .fieldLink RX0 9 "NeighborBook$Contents" "sizes" "[I"] ++ wsX00)
def wsX0_drop : List Cond := .code yX0_drop cX0_drop 2 none :: ([.fieldLink RX0 9 "NeighborBook$Contents" "sizes" "[I", .methodLink RX0 45 yX0_has, .instanceMethod yX0_has, .selects RX0 yX0_has yX0_has, .initialized RX0, .code yX0_has cX0_has 2 (some .boolean), .methodLink RX0 48 yX0_sizeOf, .instanceMethod yX0_sizeOf, .selects RX0 yX0_sizeOf yX0_sizeOf, .code yX0_sizeOf cX0_sizeOf 2 (some .int)] ++ wsX00)
def wsX0_byteAt : List Cond := .code yX0_byteAt cX0_byteAt 3 (some .int) :: ([.fieldLink RX0 15 "NeighborBook$Contents" "bytes" "[B", .methodLink RX0 48 yX0_sizeOf, .instanceMethod yX0_sizeOf, .selects RX0 yX0_sizeOf yX0_sizeOf, .initialized RX0, .code yX0_sizeOf cX0_sizeOf 2 (some .int), .fieldLink RX0 9 "NeighborBook$Contents" "sizes" "[I", .methodLink RX0 35 yX0_startOf, .static yX0_startOf, .code yX0_startOf cX0_startOf 1 (some .int)] ++ wsX00)
def wsX0_isSame : List Cond := .code yX0_isSame cX0_isSame 7 (some .boolean) :: ([.fieldLink RX0 15 "NeighborBook$Contents" "bytes" "[B", .methodLink RX0 48 yX0_sizeOf, .instanceMethod yX0_sizeOf, .selects RX0 yX0_sizeOf yX0_sizeOf, .initialized RX0, .code yX0_sizeOf cX0_sizeOf 2 (some .int), .fieldLink RX0 9 "NeighborBook$Contents" "sizes" "[I", .methodLink RX0 35 yX0_startOf, .static yX0_startOf, .code yX0_startOf cX0_startOf 1 (some .int)] ++ wsX00)
def wsX0_isSameStation : List Cond := .code yX0_isSameStation cX0_isSameStation 2 (some .boolean) :: ([.fieldLink RX0 15 "NeighborBook$Contents" "bytes" "[B", .methodLink RX0 35 yX0_startOf, .static yX0_startOf, .initialized RX0, .code yX0_startOf cX0_startOf 1 (some .int), .methodLink RX0 48 yX0_sizeOf, .instanceMethod yX0_sizeOf, .selects RX0 yX0_sizeOf yX0_sizeOf, .code yX0_sizeOf cX0_sizeOf 2 (some .int), .fieldLink RX0 9 "NeighborBook$Contents" "sizes" "[I", .methodLink RX0 51 yX0_isSame, .instanceMethod yX0_isSame, .selects RX0 yX0_isSame yX0_isSame, .code yX0_isSame cX0_isSame 7 (some .boolean)] ++ wsX00)
def wsX0_typeBits : List Cond := .code yX0_typeBits cX0_typeBits 3 (some .int) :: ([.methodLink RX0 45 yX0_has, .instanceMethod yX0_has, .selects RX0 yX0_has yX0_has, .initialized RX0, .code yX0_has cX0_has 2 (some .boolean), .methodLink RX0 48 yX0_sizeOf, .instanceMethod yX0_sizeOf, .selects RX0 yX0_sizeOf yX0_sizeOf, .code yX0_sizeOf cX0_sizeOf 2 (some .int), .fieldLink RX0 9 "NeighborBook$Contents" "sizes" "[I"] ++ wsX00)
def wsX1_init : List Cond := .code yX1_init cX1_init 1 none :: ([.methodLink RX1 3 objectInit, .instanceMethod objectInit, .code objectInit ⟨#[0xb1]⟩ 1 none, .classLink RX1 9 RX0, .instantiable RX0 2, .initialized RX0, .fieldLink RX1 12 "NeighborBook$FrameReader" "contents" "LNeighborBook$Contents;", .methodLink RX1 11 yX0_init, .instanceMethod yX0_init, .code yX0_init cX0_init 1 none, .methodLink RX0 3 objectInit, .arrayClass .int, .fieldLink RX0 9 "NeighborBook$Contents" "sizes" "[I", .arrayClass .byte, .fieldLink RX0 15 "NeighborBook$Contents" "bytes" "[B", .methodLink RX0 19 yX0_clear, .instanceMethod yX0_clear, .selects RX0 yX0_clear yX0_clear, .code yX0_clear cX0_clear 1 none, .methodLink RX0 26 yJ7_fill_53178, .static yJ7_fill_53178, .initialized RJ7, .code yJ7_fill_53178 cJ7_fill_53178 4 none] ++ wsX00 ++ wsX10)
def wsX1_contents : List Cond := .code yX1_contents cX1_contents 1 (some (.object "NeighborBook$Contents")) :: ([.fieldLink RX1 12 "NeighborBook$FrameReader" "contents" "LNeighborBook$Contents;"] ++ wsX10)
def wsX1_held : List Cond := .code yX1_held cX1_held 1 (some .int) :: ([.fieldLink RX1 18 "NeighborBook$FrameReader" "held" "I"] ++ wsX10)
def wsX1_useNext : List Cond := .code yX1_useNext cX1_useNext 2 none :: ([.fieldLink RX1 12 "NeighborBook$FrameReader" "contents" "LNeighborBook$Contents;"] ++ wsX10)
def wsX1_pairAt : List Cond := .code yX1_pairAt cX1_pairAt 2 (some .int) :: ([])
def wsX1_isOutOfOrder : List Cond := .code yX1_isOutOfOrder cX1_isOutOfOrder 2 (some .boolean) :: ([])
def wsX1_isWrongSize : List Cond := .code yX1_isWrongSize cX1_isWrongSize 2 (some .boolean) :: ([.static yX6_isMore, .initialized RX6, .code yX6_isMore cX6_isMore 1 (some .boolean)])
def wsX1_faultOfPart : List Cond := .code yX1_faultOfPart cX1_faultOfPart 5 (some .int) :: ([.fieldLink RX1 12 "NeighborBook$FrameReader" "contents" "LNeighborBook$Contents;", .methodLink RX1 37 yX1_isOutOfOrder, .static yX1_isOutOfOrder, .initialized RX1, .code yX1_isOutOfOrder cX1_isOutOfOrder 2 (some .boolean), .methodLink RX1 41 yX1_isWrongSize, .static yX1_isWrongSize, .code yX1_isWrongSize cX1_isWrongSize 2 (some .boolean), .static yX6_isMore, .initialized RX6, .code yX6_isMore cX6_isMore 1 (some .boolean), .methodLink RX1 48 yX0_has, .instanceMethod yX0_has, .selects RX0 yX0_has yX0_has, .initialized RX0, .code yX0_has cX0_has 2 (some .boolean), .methodLink RX0 48 yX0_sizeOf, .instanceMethod yX0_sizeOf, .selects RX0 yX0_sizeOf yX0_sizeOf, .code yX0_sizeOf cX0_sizeOf 2 (some .int), .fieldLink RX0 9 "NeighborBook$Contents" "sizes" "[I"] ++ wsX10 ++ wsX00)
def wsX1_takePart_r1 : List Cond := [Cond.fieldLink RX1 18 "NeighborBook$FrameReader" "held" "I", Cond.fieldLink RX1 12 "NeighborBook$FrameReader" "contents" "LNeighborBook$Contents;", Cond.methodLink RX1 25 yX1_pairAt, Cond.static yX1_pairAt, Cond.initialized RX1, Cond.code yX1_pairAt cX1_pairAt 2 (some .int), Cond.methodLink RX1 51 yX0_keep, Cond.instanceMethod yX0_keep, Cond.selects RX0 yX0_keep yX0_keep, Cond.initialized RX0, Cond.code yX0_keep cX0_keep 5 none, Cond.fieldLink RX0 15 "NeighborBook$Contents" "bytes" "[B", Cond.methodLink RX0 39 arraycopyName, Cond.native arraycopyName, Cond.static arraycopyName, Cond.initialized "java/lang/System", Cond.fieldLink RX0 9 "NeighborBook$Contents" "sizes" "[I", Cond.methodLink RX0 32 yX0_isKept, Cond.static yX0_isKept, Cond.code yX0_isKept cX0_isKept 1 (some .boolean), Cond.static yX6_isMore, Cond.initialized RX6, Cond.code yX6_isMore cX6_isMore 1 (some .boolean), Cond.methodLink RX0 35 yX0_startOf]
def wsX1_takePart_r2 : List Cond := [Cond.static yX0_startOf, Cond.code yX0_startOf cX0_startOf 1 (some .int)]
def wsX1_takePart : List Cond := .code yX1_takePart cX1_takePart 5 none :: ((wsX1_takePart_r1 ++ wsX1_takePart_r2) ++ wsX10 ++ wsX00)
def wsX1_read_r1 : List Cond := [Cond.fieldLink RX1 12 "NeighborBook$FrameReader" "contents" "LNeighborBook$Contents;", Cond.methodLink RX1 22 yX0_clear, Cond.instanceMethod yX0_clear, Cond.selects RX0 yX0_clear yX0_clear, Cond.initialized RX0, Cond.code yX0_clear cX0_clear 1 none, Cond.fieldLink RX0 9 "NeighborBook$Contents" "sizes" "[I", Cond.methodLink RX0 26 yJ7_fill_53178, Cond.static yJ7_fill_53178, Cond.initialized RJ7, Cond.code yJ7_fill_53178 cJ7_fill_53178 4 none, Cond.methodLink RX1 25 yX1_pairAt, Cond.static yX1_pairAt, Cond.initialized RX1, Cond.code yX1_pairAt cX1_pairAt 2 (some .int), Cond.methodLink RX1 29 yX1_faultOfPart, Cond.instanceMethod yX1_faultOfPart, Cond.selects RX1 yX1_faultOfPart yX1_faultOfPart, Cond.code yX1_faultOfPart cX1_faultOfPart 5 (some .int), Cond.methodLink RX1 37 yX1_isOutOfOrder, Cond.static yX1_isOutOfOrder, Cond.code yX1_isOutOfOrder cX1_isOutOfOrder 2 (some .boolean), Cond.methodLink RX1 41 yX1_isWrongSize, Cond.static yX1_isWrongSize]
def wsX1_read_r2 : List Cond := [Cond.code yX1_isWrongSize cX1_isWrongSize 2 (some .boolean), Cond.static yX6_isMore, Cond.initialized RX6, Cond.code yX6_isMore cX6_isMore 1 (some .boolean), Cond.methodLink RX1 48 yX0_has, Cond.instanceMethod yX0_has, Cond.selects RX0 yX0_has yX0_has, Cond.code yX0_has cX0_has 2 (some .boolean), Cond.methodLink RX0 48 yX0_sizeOf, Cond.instanceMethod yX0_sizeOf, Cond.selects RX0 yX0_sizeOf yX0_sizeOf, Cond.code yX0_sizeOf cX0_sizeOf 2 (some .int), Cond.methodLink RX1 33 yX1_takePart, Cond.instanceMethod yX1_takePart, Cond.selects RX1 yX1_takePart yX1_takePart, Cond.code yX1_takePart cX1_takePart 5 none, Cond.fieldLink RX1 18 "NeighborBook$FrameReader" "held" "I", Cond.methodLink RX1 51 yX0_keep, Cond.instanceMethod yX0_keep, Cond.selects RX0 yX0_keep yX0_keep, Cond.code yX0_keep cX0_keep 5 none, Cond.fieldLink RX0 15 "NeighborBook$Contents" "bytes" "[B", Cond.methodLink RX0 39 arraycopyName, Cond.native arraycopyName]
def wsX1_read_r3 : List Cond := [Cond.static arraycopyName, Cond.initialized "java/lang/System", Cond.methodLink RX0 32 yX0_isKept, Cond.static yX0_isKept, Cond.code yX0_isKept cX0_isKept 1 (some .boolean), Cond.methodLink RX0 35 yX0_startOf, Cond.static yX0_startOf, Cond.code yX0_startOf cX0_startOf 1 (some .int)]
def wsX1_read : List Cond := .code yX1_read cX1_read 10 (some .int) :: ((wsX1_read_r1 ++ (wsX1_read_r2 ++ wsX1_read_r3)) ++ wsX10 ++ wsX00)
def wsX2_init : List Cond := .code yX2_init cX2_init 1 none :: ([.methodLink RX2 3 objectInit, .instanceMethod objectInit, .code objectInit ⟨#[0xb1]⟩ 1 none, .classLink RX2 9 RX0, .instantiable RX0 2, .initialized RX0, .fieldLink RX2 12 "NeighborBook$Neighbor" "contents" "LNeighborBook$Contents;", .methodLink RX2 11 yX0_init, .instanceMethod yX0_init, .code yX0_init cX0_init 1 none, .methodLink RX0 3 objectInit, .arrayClass .int, .fieldLink RX0 9 "NeighborBook$Contents" "sizes" "[I", .arrayClass .byte, .fieldLink RX0 15 "NeighborBook$Contents" "bytes" "[B", .methodLink RX0 19 yX0_clear, .instanceMethod yX0_clear, .selects RX0 yX0_clear yX0_clear, .code yX0_clear cX0_clear 1 none, .methodLink RX0 26 yJ7_fill_53178, .static yJ7_fill_53178, .initialized RJ7, .code yJ7_fill_53178 cJ7_fill_53178 4 none] ++ wsX00 ++ wsX20)
def wsX2_contents : List Cond := .code yX2_contents cX2_contents 1 (some (.object "NeighborBook$Contents")) :: ([.fieldLink RX2 12 "NeighborBook$Neighbor" "contents" "LNeighborBook$Contents;"] ++ wsX20)
def wsX2_portOf : List Cond := .code yX2_portOf cX2_portOf 1 (some .int) :: ([.fieldLink RX2 18 "NeighborBook$Neighbor" "port" "I"] ++ wsX20)
def wsX2_begin : List Cond := .code yX2_begin cX2_begin 2 none :: ([.fieldLink RX2 18 "NeighborBook$Neighbor" "port" "I", .fieldLink RX2 22 "NeighborBook$Neighbor" "frames" "I"] ++ wsX20)
def wsX2_renew : List Cond := .code yX2_renew cX2_renew 4 (some (.object "NeighborBook$Contents")) :: ([.fieldLink RX2 12 "NeighborBook$Neighbor" "contents" "LNeighborBook$Contents;", .fieldLink RX2 25 "NeighborBook$Neighbor" "ticksLeft" "I", .fieldLink RX2 22 "NeighborBook$Neighbor" "frames" "I"] ++ wsX20)
def wsX2_passTick : List Cond := .code yX2_passTick cX2_passTick 1 (some .boolean) :: ([.fieldLink RX2 25 "NeighborBook$Neighbor" "ticksLeft" "I"] ++ wsX20)
def wsX2_tellAbout : List Cond := .code yX2_tellAbout cX2_tellAbout 2 (some .int) :: ([.fieldLink RX2 18 "NeighborBook$Neighbor" "port" "I", .fieldLink RX2 25 "NeighborBook$Neighbor" "ticksLeft" "I", .fieldLink RX2 22 "NeighborBook$Neighbor" "frames" "I", .fieldLink RX2 12 "NeighborBook$Neighbor" "contents" "LNeighborBook$Contents;", .methodLink RX2 28 yX0_typeBits, .instanceMethod yX0_typeBits, .selects RX0 yX0_typeBits yX0_typeBits, .initialized RX0, .code yX0_typeBits cX0_typeBits 3 (some .int), .methodLink RX0 45 yX0_has, .instanceMethod yX0_has, .selects RX0 yX0_has yX0_has, .code yX0_has cX0_has 2 (some .boolean), .methodLink RX0 48 yX0_sizeOf, .instanceMethod yX0_sizeOf, .selects RX0 yX0_sizeOf yX0_sizeOf, .code yX0_sizeOf cX0_sizeOf 2 (some .int), .fieldLink RX0 9 "NeighborBook$Contents" "sizes" "[I"] ++ wsX20 ++ wsX00)
def wsX3_init_r1 : List Cond := [Cond.methodLink RX3 3 objectInit, Cond.instanceMethod objectInit, Cond.code objectInit ⟨#[0xb1]⟩ 1 none, Cond.classLink RX3 9 RX2, Cond.fieldLink RX3 11 "NeighborBook$Neighbors" "rows" "[LNeighborBook$Neighbor;", Cond.instantiable RX2 4, Cond.initialized RX2, Cond.instanceMethod yX2_init, Cond.code yX2_init cX2_init 1 none, Cond.methodLink RX2 3 objectInit, Cond.classLink RX2 9 RX0, Cond.instantiable RX0 2, Cond.initialized RX0, Cond.fieldLink RX2 12 "NeighborBook$Neighbor" "contents" "LNeighborBook$Contents;", Cond.methodLink RX2 11 yX0_init, Cond.instanceMethod yX0_init, Cond.code yX0_init cX0_init 1 none, Cond.methodLink RX0 3 objectInit, Cond.arrayClass .int, Cond.fieldLink RX0 9 "NeighborBook$Contents" "sizes" "[I", Cond.arrayClass .byte, Cond.fieldLink RX0 15 "NeighborBook$Contents" "bytes" "[B", Cond.methodLink RX0 19 yX0_clear, Cond.instanceMethod yX0_clear]
def wsX3_init_r2 : List Cond := [Cond.selects RX0 yX0_clear yX0_clear, Cond.code yX0_clear cX0_clear 1 none, Cond.methodLink RX0 26 yJ7_fill_53178, Cond.static yJ7_fill_53178, Cond.initialized RJ7, Cond.code yJ7_fill_53178 cJ7_fill_53178 4 none]
def wsX3_init : List Cond := .code yX3_init cX3_init 2 none :: ((wsX3_init_r1 ++ wsX3_init_r2) ++ wsX30 ++ wsX20 ++ wsX00)
def wsX3_size : List Cond := .code yX3_size cX3_size 1 (some .int) :: ([.fieldLink RX3 18 "NeighborBook$Neighbors" "size" "I"] ++ wsX30)
def wsX3_has : List Cond := .code yX3_has cX3_has 2 (some .boolean) :: ([.fieldLink RX3 18 "NeighborBook$Neighbors" "size" "I"] ++ wsX30)
def wsX3_at : List Cond := .code yX3_at cX3_at 2 (some (.object "NeighborBook$Neighbor")) :: ([.fieldLink RX3 11 "NeighborBook$Neighbors" "rows" "[LNeighborBook$Neighbor;"] ++ wsX30)
def wsX3_sizeAt : List Cond := .code yX3_sizeAt cX3_sizeAt 4 (some .int) :: ([.fieldLink RX3 18 "NeighborBook$Neighbors" "size" "I", .fieldLink RX3 11 "NeighborBook$Neighbors" "rows" "[LNeighborBook$Neighbor;", .methodLink RX3 22 yX2_portOf, .instanceMethod yX2_portOf, .selects RX2 yX2_portOf yX2_portOf, .initialized RX2, .code yX2_portOf cX2_portOf 1 (some .int), .fieldLink RX2 18 "NeighborBook$Neighbor" "port" "I"] ++ wsX30 ++ wsX20)
def wsX3_find_r1 : List Cond := [Cond.fieldLink RX3 18 "NeighborBook$Neighbors" "size" "I", Cond.fieldLink RX3 11 "NeighborBook$Neighbors" "rows" "[LNeighborBook$Neighbor;", Cond.methodLink RX3 22 yX2_portOf, Cond.instanceMethod yX2_portOf, Cond.selects RX2 yX2_portOf yX2_portOf, Cond.initialized RX2, Cond.code yX2_portOf cX2_portOf 1 (some .int), Cond.fieldLink RX2 18 "NeighborBook$Neighbor" "port" "I", Cond.methodLink RX3 26 yX2_contents, Cond.instanceMethod yX2_contents, Cond.selects RX2 yX2_contents yX2_contents, Cond.code yX2_contents cX2_contents 1 (some (.object "NeighborBook$Contents")), Cond.fieldLink RX2 12 "NeighborBook$Neighbor" "contents" "LNeighborBook$Contents;", Cond.methodLink RX3 30 yX0_isSameStation, Cond.instanceMethod yX0_isSameStation, Cond.selects RX0 yX0_isSameStation yX0_isSameStation, Cond.initialized RX0, Cond.code yX0_isSameStation cX0_isSameStation 2 (some .boolean), Cond.fieldLink RX0 15 "NeighborBook$Contents" "bytes" "[B", Cond.methodLink RX0 35 yX0_startOf, Cond.static yX0_startOf, Cond.code yX0_startOf cX0_startOf 1 (some .int), Cond.methodLink RX0 48 yX0_sizeOf, Cond.instanceMethod yX0_sizeOf]
def wsX3_find_r2 : List Cond := [Cond.selects RX0 yX0_sizeOf yX0_sizeOf, Cond.code yX0_sizeOf cX0_sizeOf 2 (some .int), Cond.fieldLink RX0 9 "NeighborBook$Contents" "sizes" "[I", Cond.methodLink RX0 51 yX0_isSame, Cond.instanceMethod yX0_isSame, Cond.selects RX0 yX0_isSame yX0_isSame, Cond.code yX0_isSame cX0_isSame 7 (some .boolean)]
def wsX3_find : List Cond := .code yX3_find cX3_find 4 (some .int) :: ((wsX3_find_r1 ++ wsX3_find_r2) ++ wsX30 ++ wsX20 ++ wsX00)
def wsX3_add : List Cond := .code yX3_add cX3_add 3 (some .int) :: ([.fieldLink RX3 18 "NeighborBook$Neighbors" "size" "I", .fieldLink RX3 11 "NeighborBook$Neighbors" "rows" "[LNeighborBook$Neighbor;", .methodLink RX3 36 yX2_begin, .instanceMethod yX2_begin, .selects RX2 yX2_begin yX2_begin, .initialized RX2, .code yX2_begin cX2_begin 2 none, .fieldLink RX2 18 "NeighborBook$Neighbor" "port" "I", .fieldLink RX2 22 "NeighborBook$Neighbor" "frames" "I"] ++ wsX30 ++ wsX20)
def wsX3_forget : List Cond := .code yX3_forget cX3_forget 4 none :: ([.fieldLink RX3 11 "NeighborBook$Neighbors" "rows" "[LNeighborBook$Neighbor;", .fieldLink RX3 18 "NeighborBook$Neighbors" "size" "I", .methodLink RX3 40 yX3_has, .instanceMethod yX3_has, .selects RX3 yX3_has yX3_has, .initialized RX3, .code yX3_has cX3_has 2 (some .boolean)] ++ wsX30)
def wsX3_forgetAllAt : List Cond := .code yX3_forgetAllAt cX3_forgetAllAt 3 none :: ([.fieldLink RX3 18 "NeighborBook$Neighbors" "size" "I", .fieldLink RX3 11 "NeighborBook$Neighbors" "rows" "[LNeighborBook$Neighbor;", .methodLink RX3 22 yX2_portOf, .instanceMethod yX2_portOf, .selects RX2 yX2_portOf yX2_portOf, .initialized RX2, .code yX2_portOf cX2_portOf 1 (some .int), .fieldLink RX2 18 "NeighborBook$Neighbor" "port" "I", .methodLink RX3 44 yX3_forget, .instanceMethod yX3_forget, .selects RX3 yX3_forget yX3_forget, .initialized RX3, .code yX3_forget cX3_forget 4 none, .methodLink RX3 40 yX3_has, .instanceMethod yX3_has, .selects RX3 yX3_has yX3_has, .code yX3_has cX3_has 2 (some .boolean)] ++ wsX30 ++ wsX20)
def wsX3_passTick : List Cond := .code yX3_passTick cX3_passTick 2 none :: ([.fieldLink RX3 18 "NeighborBook$Neighbors" "size" "I", .fieldLink RX3 11 "NeighborBook$Neighbors" "rows" "[LNeighborBook$Neighbor;", .methodLink RX3 47 yX2_passTick, .instanceMethod yX2_passTick, .selects RX2 yX2_passTick yX2_passTick, .initialized RX2, .code yX2_passTick cX2_passTick 1 (some .boolean), .fieldLink RX2 25 "NeighborBook$Neighbor" "ticksLeft" "I", .methodLink RX3 44 yX3_forget, .instanceMethod yX3_forget, .selects RX3 yX3_forget yX3_forget, .initialized RX3, .code yX3_forget cX3_forget 4 none, .methodLink RX3 40 yX3_has, .instanceMethod yX3_has, .selects RX3 yX3_has yX3_has, .code yX3_has cX3_has 2 (some .boolean)] ++ wsX30 ++ wsX20)
def wsX4_init : List Cond := .code yX4_init cX4_init 1 none :: ([.methodLink RX4 3 objectInit, .instanceMethod objectInit, .code objectInit ⟨#[0xb1]⟩ 1 none])
def wsX4_isUp : List Cond := .code yX4_isUp cX4_isUp 1 (some .boolean) :: ([.fieldLink RX4 9 "NeighborBook$Port" "up" "Z"] ++ wsX40)
def wsX4_goUp : List Cond := .code yX4_goUp cX4_goUp 2 none :: ([.fieldLink RX4 9 "NeighborBook$Port" "up" "Z", .fieldLink RX4 15 "NeighborBook$Port" "quickLeft" "I", .fieldLink RX4 19 "NeighborBook$Port" "waitLeft" "I"] ++ wsX40)
def wsX4_goDown : List Cond := .code yX4_goDown cX4_goDown 1 none :: ([.fieldLink RX4 9 "NeighborBook$Port" "up" "Z", .fieldLink RX4 19 "NeighborBook$Port" "waitLeft" "I", .fieldLink RX4 22 "NeighborBook$Port" "framesSent" "I"] ++ wsX40)
def wsX4_hurry : List Cond := .code yX4_hurry cX4_hurry 1 none :: ([.fieldLink RX4 9 "NeighborBook$Port" "up" "Z", .fieldLink RX4 19 "NeighborBook$Port" "waitLeft" "I"] ++ wsX40)
def wsX4_greet : List Cond := .code yX4_greet cX4_greet 2 none :: ([.fieldLink RX4 15 "NeighborBook$Port" "quickLeft" "I", .methodLink RX4 25 Lib.Math.max.name, .static Lib.Math.max.name, .initialized "java/lang/Math", .code Lib.Math.max.name Lib.Math.max.code 2 (some .int), .fieldLink RX4 19 "NeighborBook$Port" "waitLeft" "I"] ++ wsX40)
def wsX4_noteHeard : List Cond := .code yX4_noteHeard cX4_noteHeard 2 none :: ([.fieldLink RX4 31 "NeighborBook$Port" "heardWell" "I", .fieldLink RX4 34 "NeighborBook$Port" "heardFaulty" "I"] ++ wsX40)
def wsX4_passTick : List Cond := .code yX4_passTick cX4_passTick 2 (some .boolean) :: ([.fieldLink RX4 9 "NeighborBook$Port" "up" "Z", .fieldLink RX4 19 "NeighborBook$Port" "waitLeft" "I", .fieldLink RX4 22 "NeighborBook$Port" "framesSent" "I", .fieldLink RX4 15 "NeighborBook$Port" "quickLeft" "I"] ++ wsX40)
def wsX4_tellAbout : List Cond := .code yX4_tellAbout cX4_tellAbout 2 (some .int) :: ([.fieldLink RX4 9 "NeighborBook$Port" "up" "Z", .fieldLink RX4 22 "NeighborBook$Port" "framesSent" "I", .fieldLink RX4 31 "NeighborBook$Port" "heardWell" "I", .fieldLink RX4 34 "NeighborBook$Port" "heardFaulty" "I", .fieldLink RX4 19 "NeighborBook$Port" "waitLeft" "I", .fieldLink RX4 15 "NeighborBook$Port" "quickLeft" "I"] ++ wsX40)
def wsX5_init : List Cond := .code yX5_init cX5_init 1 none :: ([.methodLink RX5 3 objectInit, .instanceMethod objectInit, .code objectInit ⟨#[0xb1]⟩ 1 none, .arrayClass .byte, .fieldLink RX5 9 "NeighborBook$SentFrame" "bytes" "[B", .fieldLink RX5 15 "NeighborBook$SentFrame" "port" "I"] ++ wsX50)
def wsX5_length : List Cond := .code yX5_length cX5_length 1 (some .int) :: ([.fieldLink RX5 19 "NeighborBook$SentFrame" "length" "I"] ++ wsX50)
def wsX5_portOf : List Cond := .code yX5_portOf cX5_portOf 1 (some .int) :: ([.fieldLink RX5 15 "NeighborBook$SentFrame" "port" "I"] ++ wsX50)
def wsX5_byteAt : List Cond := .code yX5_byteAt cX5_byteAt 2 (some .int) :: ([.fieldLink RX5 19 "NeighborBook$SentFrame" "length" "I", .fieldLink RX5 9 "NeighborBook$SentFrame" "bytes" "[B"] ++ wsX50)
def wsX5_putByte : List Cond := .code yX5_putByte cX5_putByte 2 none :: ([.fieldLink RX5 19 "NeighborBook$SentFrame" "length" "I", .fieldLink RX5 9 "NeighborBook$SentFrame" "bytes" "[B"] ++ wsX50)
def wsX5_putHead : List Cond := .code yX5_putHead cX5_putHead 4 none :: ([.methodLink RX5 36 yX5_putByte, .instanceMethod yX5_putByte, .selects RX5 yX5_putByte yX5_putByte, .initialized RX5, .code yX5_putByte cX5_putByte 2 none, .fieldLink RX5 19 "NeighborBook$SentFrame" "length" "I", .fieldLink RX5 9 "NeighborBook$SentFrame" "bytes" "[B"] ++ wsX50)
def wsX5_putContent : List Cond := .code yX5_putContent cX5_putContent 5 none :: ([.methodLink RX5 22 yX0_sizeOf, .instanceMethod yX0_sizeOf, .selects RX0 yX0_sizeOf yX0_sizeOf, .initialized RX0, .code yX0_sizeOf cX0_sizeOf 2 (some .int), .fieldLink RX0 9 "NeighborBook$Contents" "sizes" "[I", .methodLink RX5 44 yX0_byteAt, .instanceMethod yX0_byteAt, .selects RX0 yX0_byteAt yX0_byteAt, .code yX0_byteAt cX0_byteAt 3 (some .int), .fieldLink RX0 15 "NeighborBook$Contents" "bytes" "[B", .methodLink RX0 48 yX0_sizeOf, .methodLink RX0 35 yX0_startOf, .static yX0_startOf, .code yX0_startOf cX0_startOf 1 (some .int), .methodLink RX5 36 yX5_putByte, .instanceMethod yX5_putByte, .selects RX5 yX5_putByte yX5_putByte, .initialized RX5, .code yX5_putByte cX5_putByte 2 none, .fieldLink RX5 19 "NeighborBook$SentFrame" "length" "I", .fieldLink RX5 9 "NeighborBook$SentFrame" "bytes" "[B"] ++ wsX00 ++ wsX50)
def wsX5_write_r1 : List Cond := [Cond.fieldLink RX5 15 "NeighborBook$SentFrame" "port" "I", Cond.fieldLink RX5 19 "NeighborBook$SentFrame" "length" "I", Cond.methodLink RX5 22 yX0_sizeOf, Cond.instanceMethod yX0_sizeOf, Cond.selects RX0 yX0_sizeOf yX0_sizeOf, Cond.initialized RX0, Cond.code yX0_sizeOf cX0_sizeOf 2 (some .int), Cond.fieldLink RX0 9 "NeighborBook$Contents" "sizes" "[I", Cond.methodLink RX5 28 yX5_putHead, Cond.instanceMethod yX5_putHead, Cond.selects RX5 yX5_putHead yX5_putHead, Cond.initialized RX5, Cond.code yX5_putHead cX5_putHead 4 none, Cond.methodLink RX5 36 yX5_putByte, Cond.instanceMethod yX5_putByte, Cond.selects RX5 yX5_putByte yX5_putByte, Cond.code yX5_putByte cX5_putByte 2 none, Cond.fieldLink RX5 9 "NeighborBook$SentFrame" "bytes" "[B", Cond.methodLink RX5 32 yX5_putContent, Cond.instanceMethod yX5_putContent, Cond.selects RX5 yX5_putContent yX5_putContent, Cond.code yX5_putContent cX5_putContent 5 none, Cond.methodLink RX5 44 yX0_byteAt, Cond.instanceMethod yX0_byteAt]
def wsX5_write_r2 : List Cond := [Cond.selects RX0 yX0_byteAt yX0_byteAt, Cond.code yX0_byteAt cX0_byteAt 3 (some .int), Cond.fieldLink RX0 15 "NeighborBook$Contents" "bytes" "[B", Cond.methodLink RX0 48 yX0_sizeOf, Cond.methodLink RX0 35 yX0_startOf, Cond.static yX0_startOf, Cond.code yX0_startOf cX0_startOf 1 (some .int), Cond.methodLink RX5 40 yX0_has, Cond.instanceMethod yX0_has, Cond.selects RX0 yX0_has yX0_has, Cond.code yX0_has cX0_has 2 (some .boolean)]
def wsX5_write : List Cond := .code yX5_write cX5_write 5 none :: ((wsX5_write_r1 ++ wsX5_write_r2) ++ wsX50 ++ wsX00)
def wsX6_init_r1 : List Cond := [Cond.methodLink RX6 1 objectInit, Cond.instanceMethod objectInit, Cond.code objectInit ⟨#[0xb1]⟩ 1 none, Cond.arrayClass .byte, Cond.fieldLink RX6 9 "NeighborBook" "typed" "[B", Cond.classLink RX6 13 RX0, Cond.instantiable RX0 2, Cond.initialized RX0, Cond.fieldLink RX6 16 "NeighborBook" "told" "LNeighborBook$Contents;", Cond.classLink RX6 20 RX4, Cond.fieldLink RX6 22 "NeighborBook" "ports" "[LNeighborBook$Port;", Cond.classLink RX6 26 RX3, Cond.instantiable RX3 2, Cond.initialized RX3, Cond.fieldLink RX6 29 "NeighborBook" "known" "LNeighborBook$Neighbors;", Cond.classLink RX6 33 RX1, Cond.instantiable RX1 2, Cond.initialized RX1, Cond.fieldLink RX6 36 "NeighborBook" "reader" "LNeighborBook$FrameReader;", Cond.classLink RX6 40 RX5, Cond.instantiable RX5 3, Cond.initialized RX5, Cond.fieldLink RX6 43 "NeighborBook" "latest" "LNeighborBook$SentFrame;", Cond.fieldLink RX6 47 "NeighborBook" "interval" "I"]
def wsX6_init_r2 : List Cond := [Cond.fieldLink RX6 51 "NeighborBook" "hold" "I", Cond.fieldLink RX6 54 "NeighborBook" "quick" "I", Cond.instantiable RX4 6, Cond.initialized RX4, Cond.fieldLink RX6 58 "NeighborBook" "FIRST_NAME" "[B", Cond.methodLink RX6 15 yX0_init, Cond.instanceMethod yX0_init, Cond.code yX0_init cX0_init 1 none, Cond.methodLink RX0 3 objectInit, Cond.arrayClass .int, Cond.fieldLink RX0 9 "NeighborBook$Contents" "sizes" "[I", Cond.fieldLink RX0 15 "NeighborBook$Contents" "bytes" "[B", Cond.methodLink RX0 19 yX0_clear, Cond.instanceMethod yX0_clear, Cond.selects RX0 yX0_clear yX0_clear, Cond.code yX0_clear cX0_clear 1 none, Cond.methodLink RX0 26 yJ7_fill_53178, Cond.static yJ7_fill_53178, Cond.initialized RJ7, Cond.code yJ7_fill_53178 cJ7_fill_53178 4 none, Cond.methodLink RX6 28 yX3_init, Cond.instanceMethod yX3_init, Cond.code yX3_init cX3_init 2 none, Cond.methodLink RX3 3 objectInit]
def wsX6_init_r3 : List Cond := [Cond.classLink RX3 9 RX2, Cond.fieldLink RX3 11 "NeighborBook$Neighbors" "rows" "[LNeighborBook$Neighbor;", Cond.instantiable RX2 4, Cond.initialized RX2, Cond.instanceMethod yX2_init, Cond.code yX2_init cX2_init 1 none, Cond.methodLink RX2 3 objectInit, Cond.classLink RX2 9 RX0, Cond.fieldLink RX2 12 "NeighborBook$Neighbor" "contents" "LNeighborBook$Contents;", Cond.methodLink RX2 11 yX0_init, Cond.instanceMethod yX1_init, Cond.code yX1_init cX1_init 1 none, Cond.methodLink RX1 3 objectInit, Cond.classLink RX1 9 RX0, Cond.fieldLink RX1 12 "NeighborBook$FrameReader" "contents" "LNeighborBook$Contents;", Cond.methodLink RX1 11 yX0_init, Cond.instanceMethod yX5_init, Cond.code yX5_init cX5_init 1 none, Cond.methodLink RX5 3 objectInit, Cond.fieldLink RX5 9 "NeighborBook$SentFrame" "bytes" "[B", Cond.fieldLink RX5 15 "NeighborBook$SentFrame" "port" "I", Cond.instanceMethod yX4_init, Cond.code yX4_init cX4_init 1 none, Cond.methodLink RX4 3 objectInit]
def wsX6_init_r4 : List Cond := [Cond.methodLink RX6 61 yX0_keep, Cond.instanceMethod yX0_keep, Cond.selects RX0 yX0_keep yX0_keep, Cond.code yX0_keep cX0_keep 5 none, Cond.methodLink RX0 39 arraycopyName, Cond.native arraycopyName, Cond.static arraycopyName, Cond.initialized "java/lang/System", Cond.methodLink RX0 32 yX0_isKept, Cond.static yX0_isKept, Cond.code yX0_isKept cX0_isKept 1 (some .boolean), Cond.static yX6_isMore, Cond.initialized RX6, Cond.code yX6_isMore cX6_isMore 1 (some .boolean), Cond.methodLink RX0 35 yX0_startOf, Cond.static yX0_startOf, Cond.code yX0_startOf cX0_startOf 1 (some .int)]
def wsX6_init : List Cond := .code yX6_init cX6_init 2 none :: ((wsX6_init_r1 ++ (wsX6_init_r2 ++ (wsX6_init_r3 ++ wsX6_init_r4))) ++ wsX60 ++ wsX00 ++ wsX30 ++ wsX10 ++ wsX50 ++ wsX40 ++ wsX20)
def wsX6_type : List Cond := .code yX6_type cX6_type 5 (some .int) :: ([.fieldLink RX6 65 "NeighborBook" "typedCount" "I", .fieldLink RX6 9 "NeighborBook" "typed" "[B"] ++ wsX60)
def wsX6_isTellable : List Cond := .code yX6_isTellable cX6_isTellable 2 (some .boolean) :: ([.methodLink RX6 174 yX6_isMore, .static yX6_isMore, .initialized RX6, .code yX6_isMore cX6_isMore 1 (some .boolean)])
def wsX6_hurryAll : List Cond := .code yX6_hurryAll cX6_hurryAll 2 none :: ([.fieldLink RX6 22 "NeighborBook" "ports" "[LNeighborBook$Port;", .methodLink RX6 188 yX4_hurry, .instanceMethod yX4_hurry, .selects RX4 yX4_hurry yX4_hurry, .initialized RX4, .code yX4_hurry cX4_hurry 1 none, .fieldLink RX4 9 "NeighborBook$Port" "up" "Z", .fieldLink RX4 19 "NeighborBook$Port" "waitLeft" "I"] ++ wsX60 ++ wsX40)
def wsX6_tellNothing_r1 : List Cond := [Cond.fieldLink RX6 16 "NeighborBook" "told" "LNeighborBook$Contents;", Cond.methodLink RX6 177 yX0_has, Cond.instanceMethod yX0_has, Cond.selects RX0 yX0_has yX0_has, Cond.initialized RX0, Cond.code yX0_has cX0_has 2 (some .boolean), Cond.methodLink RX0 48 yX0_sizeOf, Cond.instanceMethod yX0_sizeOf, Cond.selects RX0 yX0_sizeOf yX0_sizeOf, Cond.code yX0_sizeOf cX0_sizeOf 2 (some .int), Cond.fieldLink RX0 9 "NeighborBook$Contents" "sizes" "[I", Cond.methodLink RX6 178 yX0_drop, Cond.instanceMethod yX0_drop, Cond.selects RX0 yX0_drop yX0_drop, Cond.code yX0_drop cX0_drop 2 none, Cond.methodLink RX0 45 yX0_has, Cond.methodLink RX6 181 yX6_hurryAll, Cond.instanceMethod yX6_hurryAll, Cond.selects RX6 yX6_hurryAll yX6_hurryAll, Cond.initialized RX6, Cond.code yX6_hurryAll cX6_hurryAll 2 none, Cond.fieldLink RX6 22 "NeighborBook" "ports" "[LNeighborBook$Port;", Cond.methodLink RX6 188 yX4_hurry, Cond.instanceMethod yX4_hurry]
def wsX6_tellNothing_r2 : List Cond := [Cond.selects RX4 yX4_hurry yX4_hurry, Cond.initialized RX4, Cond.code yX4_hurry cX4_hurry 1 none, Cond.fieldLink RX4 9 "NeighborBook$Port" "up" "Z", Cond.fieldLink RX4 19 "NeighborBook$Port" "waitLeft" "I"]
def wsX6_tellNothing : List Cond := .code yX6_tellNothing cX6_tellNothing 2 none :: ((wsX6_tellNothing_r1 ++ wsX6_tellNothing_r2) ++ wsX60 ++ wsX00 ++ wsX40)
def wsX6_tellTyped_r1 : List Cond := [Cond.fieldLink RX6 16 "NeighborBook" "told" "LNeighborBook$Contents;", Cond.fieldLink RX6 9 "NeighborBook" "typed" "[B", Cond.fieldLink RX6 65 "NeighborBook" "typedCount" "I", Cond.methodLink RX6 184 yX0_isSame, Cond.instanceMethod yX0_isSame, Cond.selects RX0 yX0_isSame yX0_isSame, Cond.initialized RX0, Cond.code yX0_isSame cX0_isSame 7 (some .boolean), Cond.fieldLink RX0 15 "NeighborBook$Contents" "bytes" "[B", Cond.methodLink RX0 48 yX0_sizeOf, Cond.instanceMethod yX0_sizeOf, Cond.selects RX0 yX0_sizeOf yX0_sizeOf, Cond.code yX0_sizeOf cX0_sizeOf 2 (some .int), Cond.fieldLink RX0 9 "NeighborBook$Contents" "sizes" "[I", Cond.methodLink RX0 35 yX0_startOf, Cond.static yX0_startOf, Cond.code yX0_startOf cX0_startOf 1 (some .int), Cond.methodLink RX6 61 yX0_keep, Cond.instanceMethod yX0_keep, Cond.selects RX0 yX0_keep yX0_keep, Cond.code yX0_keep cX0_keep 5 none, Cond.methodLink RX0 39 arraycopyName, Cond.native arraycopyName, Cond.static arraycopyName]
def wsX6_tellTyped_r2 : List Cond := [Cond.initialized "java/lang/System", Cond.methodLink RX0 32 yX0_isKept, Cond.static yX0_isKept, Cond.code yX0_isKept cX0_isKept 1 (some .boolean), Cond.static yX6_isMore, Cond.initialized RX6, Cond.code yX6_isMore cX6_isMore 1 (some .boolean), Cond.methodLink RX6 181 yX6_hurryAll, Cond.instanceMethod yX6_hurryAll, Cond.selects RX6 yX6_hurryAll yX6_hurryAll, Cond.code yX6_hurryAll cX6_hurryAll 2 none, Cond.fieldLink RX6 22 "NeighborBook" "ports" "[LNeighborBook$Port;", Cond.methodLink RX6 188 yX4_hurry, Cond.instanceMethod yX4_hurry, Cond.selects RX4 yX4_hurry yX4_hurry, Cond.initialized RX4, Cond.code yX4_hurry cX4_hurry 1 none, Cond.fieldLink RX4 9 "NeighborBook$Port" "up" "Z", Cond.fieldLink RX4 19 "NeighborBook$Port" "waitLeft" "I"]
def wsX6_tellTyped : List Cond := .code yX6_tellTyped cX6_tellTyped 2 none :: ((wsX6_tellTyped_r1 ++ wsX6_tellTyped_r2) ++ wsX60 ++ wsX00 ++ wsX40)
def wsX6_tell_r1 : List Cond := [Cond.fieldLink RX6 65 "NeighborBook" "typedCount" "I", Cond.methodLink RX6 68 yX6_isTellable, Cond.static yX6_isTellable, Cond.initialized RX6, Cond.code yX6_isTellable cX6_isTellable 2 (some .boolean), Cond.methodLink RX6 174 yX6_isMore, Cond.static yX6_isMore, Cond.code yX6_isMore cX6_isMore 1 (some .boolean), Cond.methodLink RX6 72 yX6_tellNothing, Cond.instanceMethod yX6_tellNothing, Cond.selects RX6 yX6_tellNothing yX6_tellNothing, Cond.code yX6_tellNothing cX6_tellNothing 2 none, Cond.fieldLink RX6 16 "NeighborBook" "told" "LNeighborBook$Contents;", Cond.methodLink RX6 177 yX0_has, Cond.instanceMethod yX0_has, Cond.selects RX0 yX0_has yX0_has, Cond.initialized RX0, Cond.code yX0_has cX0_has 2 (some .boolean), Cond.methodLink RX0 48 yX0_sizeOf, Cond.instanceMethod yX0_sizeOf, Cond.selects RX0 yX0_sizeOf yX0_sizeOf, Cond.code yX0_sizeOf cX0_sizeOf 2 (some .int), Cond.fieldLink RX0 9 "NeighborBook$Contents" "sizes" "[I", Cond.methodLink RX6 178 yX0_drop]
def wsX6_tell_r2 : List Cond := [Cond.instanceMethod yX0_drop, Cond.selects RX0 yX0_drop yX0_drop, Cond.code yX0_drop cX0_drop 2 none, Cond.methodLink RX0 45 yX0_has, Cond.methodLink RX6 181 yX6_hurryAll, Cond.instanceMethod yX6_hurryAll, Cond.selects RX6 yX6_hurryAll yX6_hurryAll, Cond.code yX6_hurryAll cX6_hurryAll 2 none, Cond.fieldLink RX6 22 "NeighborBook" "ports" "[LNeighborBook$Port;", Cond.methodLink RX6 188 yX4_hurry, Cond.instanceMethod yX4_hurry, Cond.selects RX4 yX4_hurry yX4_hurry, Cond.initialized RX4, Cond.code yX4_hurry cX4_hurry 1 none, Cond.fieldLink RX4 9 "NeighborBook$Port" "up" "Z", Cond.fieldLink RX4 19 "NeighborBook$Port" "waitLeft" "I", Cond.methodLink RX6 76 yX6_tellTyped, Cond.instanceMethod yX6_tellTyped, Cond.selects RX6 yX6_tellTyped yX6_tellTyped, Cond.code yX6_tellTyped cX6_tellTyped 2 none, Cond.fieldLink RX6 9 "NeighborBook" "typed" "[B", Cond.methodLink RX6 184 yX0_isSame, Cond.instanceMethod yX0_isSame, Cond.selects RX0 yX0_isSame yX0_isSame]
def wsX6_tell_r3 : List Cond := [Cond.code yX0_isSame cX0_isSame 7 (some .boolean), Cond.fieldLink RX0 15 "NeighborBook$Contents" "bytes" "[B", Cond.methodLink RX0 35 yX0_startOf, Cond.static yX0_startOf, Cond.code yX0_startOf cX0_startOf 1 (some .int), Cond.methodLink RX6 61 yX0_keep, Cond.instanceMethod yX0_keep, Cond.selects RX0 yX0_keep yX0_keep, Cond.code yX0_keep cX0_keep 5 none, Cond.methodLink RX0 39 arraycopyName, Cond.native arraycopyName, Cond.static arraycopyName, Cond.initialized "java/lang/System", Cond.methodLink RX0 32 yX0_isKept, Cond.static yX0_isKept, Cond.code yX0_isKept cX0_isKept 1 (some .boolean)]
def wsX6_tell : List Cond := .code yX6_tell cX6_tell 2 (some .int) :: ((wsX6_tell_r1 ++ (wsX6_tell_r2 ++ wsX6_tell_r3)) ++ wsX60 ++ wsX00 ++ wsX40)
def wsX6_set : List Cond := .code yX6_set cX6_set 3 (some .int) :: ([.fieldLink RX6 47 "NeighborBook" "interval" "I", .fieldLink RX6 51 "NeighborBook" "hold" "I", .fieldLink RX6 54 "NeighborBook" "quick" "I"] ++ wsX60)
def wsX6_isPort : List Cond := .code yX6_isPort cX6_isPort 1 (some .boolean) :: ([])
def wsX6_port_r1 : List Cond := [Cond.fieldLink RX6 22 "NeighborBook" "ports" "[LNeighborBook$Port;", Cond.fieldLink RX6 54 "NeighborBook" "quick" "I", Cond.fieldLink RX6 43 "NeighborBook" "latest" "LNeighborBook$SentFrame;", Cond.fieldLink RX6 16 "NeighborBook" "told" "LNeighborBook$Contents;", Cond.fieldLink RX6 29 "NeighborBook" "known" "LNeighborBook$Neighbors;", Cond.methodLink RX6 79 yX6_isPort, Cond.static yX6_isPort, Cond.initialized RX6, Cond.code yX6_isPort cX6_isPort 1 (some .boolean), Cond.methodLink RX6 83 yX4_isUp, Cond.instanceMethod yX4_isUp, Cond.selects RX4 yX4_isUp yX4_isUp, Cond.initialized RX4, Cond.code yX4_isUp cX4_isUp 1 (some .boolean), Cond.fieldLink RX4 9 "NeighborBook$Port" "up" "Z", Cond.methodLink RX6 87 yX4_goUp, Cond.instanceMethod yX4_goUp, Cond.selects RX4 yX4_goUp yX4_goUp, Cond.code yX4_goUp cX4_goUp 2 none, Cond.fieldLink RX4 15 "NeighborBook$Port" "quickLeft" "I", Cond.fieldLink RX4 19 "NeighborBook$Port" "waitLeft" "I", Cond.methodLink RX6 90 yX4_goDown, Cond.instanceMethod yX4_goDown, Cond.selects RX4 yX4_goDown yX4_goDown]
def wsX6_port_r2 : List Cond := [Cond.code yX4_goDown cX4_goDown 1 none, Cond.fieldLink RX4 22 "NeighborBook$Port" "framesSent" "I", Cond.methodLink RX6 93 yX5_write, Cond.instanceMethod yX5_write, Cond.selects RX5 yX5_write yX5_write, Cond.initialized RX5, Cond.code yX5_write cX5_write 5 none, Cond.fieldLink RX5 15 "NeighborBook$SentFrame" "port" "I", Cond.fieldLink RX5 19 "NeighborBook$SentFrame" "length" "I", Cond.methodLink RX5 22 yX0_sizeOf, Cond.instanceMethod yX0_sizeOf, Cond.selects RX0 yX0_sizeOf yX0_sizeOf, Cond.initialized RX0, Cond.code yX0_sizeOf cX0_sizeOf 2 (some .int), Cond.fieldLink RX0 9 "NeighborBook$Contents" "sizes" "[I", Cond.methodLink RX5 28 yX5_putHead, Cond.instanceMethod yX5_putHead, Cond.selects RX5 yX5_putHead yX5_putHead, Cond.code yX5_putHead cX5_putHead 4 none, Cond.methodLink RX5 36 yX5_putByte, Cond.instanceMethod yX5_putByte, Cond.selects RX5 yX5_putByte yX5_putByte, Cond.code yX5_putByte cX5_putByte 2 none, Cond.fieldLink RX5 9 "NeighborBook$SentFrame" "bytes" "[B"]
def wsX6_port_r3 : List Cond := [Cond.methodLink RX5 32 yX5_putContent, Cond.instanceMethod yX5_putContent, Cond.selects RX5 yX5_putContent yX5_putContent, Cond.code yX5_putContent cX5_putContent 5 none, Cond.methodLink RX5 44 yX0_byteAt, Cond.instanceMethod yX0_byteAt, Cond.selects RX0 yX0_byteAt yX0_byteAt, Cond.code yX0_byteAt cX0_byteAt 3 (some .int), Cond.fieldLink RX0 15 "NeighborBook$Contents" "bytes" "[B", Cond.methodLink RX0 48 yX0_sizeOf, Cond.methodLink RX0 35 yX0_startOf, Cond.static yX0_startOf, Cond.code yX0_startOf cX0_startOf 1 (some .int), Cond.methodLink RX5 40 yX0_has, Cond.instanceMethod yX0_has, Cond.selects RX0 yX0_has yX0_has, Cond.code yX0_has cX0_has 2 (some .boolean), Cond.methodLink RX6 97 yX3_forgetAllAt, Cond.instanceMethod yX3_forgetAllAt, Cond.selects RX3 yX3_forgetAllAt yX3_forgetAllAt, Cond.initialized RX3, Cond.code yX3_forgetAllAt cX3_forgetAllAt 3 none, Cond.fieldLink RX3 18 "NeighborBook$Neighbors" "size" "I", Cond.fieldLink RX3 11 "NeighborBook$Neighbors" "rows" "[LNeighborBook$Neighbor;"]
def wsX6_port_r4 : List Cond := [Cond.methodLink RX3 22 yX2_portOf, Cond.instanceMethod yX2_portOf, Cond.selects RX2 yX2_portOf yX2_portOf, Cond.initialized RX2, Cond.code yX2_portOf cX2_portOf 1 (some .int), Cond.fieldLink RX2 18 "NeighborBook$Neighbor" "port" "I", Cond.methodLink RX3 44 yX3_forget, Cond.instanceMethod yX3_forget, Cond.selects RX3 yX3_forget yX3_forget, Cond.code yX3_forget cX3_forget 4 none, Cond.methodLink RX3 40 yX3_has, Cond.instanceMethod yX3_has, Cond.selects RX3 yX3_has yX3_has, Cond.code yX3_has cX3_has 2 (some .boolean)]
def wsX6_port : List Cond := .code yX6_port cX6_port 3 (some .int) :: ((wsX6_port_r1 ++ (wsX6_port_r2 ++ (wsX6_port_r3 ++ wsX6_port_r4))) ++ wsX60 ++ wsX40 ++ wsX50 ++ wsX00 ++ wsX30 ++ wsX20)
def wsX6_learn_r1 : List Cond := [Cond.fieldLink RX6 29 "NeighborBook" "known" "LNeighborBook$Neighbors;", Cond.fieldLink RX6 36 "NeighborBook" "reader" "LNeighborBook$FrameReader;", Cond.fieldLink RX6 22 "NeighborBook" "ports" "[LNeighborBook$Port;", Cond.fieldLink RX6 54 "NeighborBook" "quick" "I", Cond.methodLink RX6 191 yX1_contents, Cond.instanceMethod yX1_contents, Cond.selects RX1 yX1_contents yX1_contents, Cond.initialized RX1, Cond.code yX1_contents cX1_contents 1 (some (.object "NeighborBook$Contents")), Cond.fieldLink RX1 12 "NeighborBook$FrameReader" "contents" "LNeighborBook$Contents;", Cond.methodLink RX6 170 yX3_find, Cond.instanceMethod yX3_find, Cond.selects RX3 yX3_find yX3_find, Cond.initialized RX3, Cond.code yX3_find cX3_find 4 (some .int), Cond.fieldLink RX3 18 "NeighborBook$Neighbors" "size" "I", Cond.fieldLink RX3 11 "NeighborBook$Neighbors" "rows" "[LNeighborBook$Neighbor;", Cond.methodLink RX3 22 yX2_portOf, Cond.instanceMethod yX2_portOf, Cond.selects RX2 yX2_portOf yX2_portOf, Cond.initialized RX2, Cond.code yX2_portOf cX2_portOf 1 (some .int), Cond.fieldLink RX2 18 "NeighborBook$Neighbor" "port" "I", Cond.methodLink RX3 26 yX2_contents]
def wsX6_learn_r2 : List Cond := [Cond.instanceMethod yX2_contents, Cond.selects RX2 yX2_contents yX2_contents, Cond.code yX2_contents cX2_contents 1 (some (.object "NeighborBook$Contents")), Cond.fieldLink RX2 12 "NeighborBook$Neighbor" "contents" "LNeighborBook$Contents;", Cond.methodLink RX3 30 yX0_isSameStation, Cond.instanceMethod yX0_isSameStation, Cond.selects RX0 yX0_isSameStation yX0_isSameStation, Cond.initialized RX0, Cond.code yX0_isSameStation cX0_isSameStation 2 (some .boolean), Cond.fieldLink RX0 15 "NeighborBook$Contents" "bytes" "[B", Cond.methodLink RX0 35 yX0_startOf, Cond.static yX0_startOf, Cond.code yX0_startOf cX0_startOf 1 (some .int), Cond.methodLink RX0 48 yX0_sizeOf, Cond.instanceMethod yX0_sizeOf, Cond.selects RX0 yX0_sizeOf yX0_sizeOf, Cond.code yX0_sizeOf cX0_sizeOf 2 (some .int), Cond.fieldLink RX0 9 "NeighborBook$Contents" "sizes" "[I", Cond.methodLink RX0 51 yX0_isSame, Cond.instanceMethod yX0_isSame, Cond.selects RX0 yX0_isSame yX0_isSame, Cond.code yX0_isSame cX0_isSame 7 (some .boolean), Cond.methodLink RX6 192 yX1_held, Cond.instanceMethod yX1_held]
def wsX6_learn_r3 : List Cond := [Cond.selects RX1 yX1_held yX1_held, Cond.code yX1_held cX1_held 1 (some .int), Cond.fieldLink RX1 18 "NeighborBook$FrameReader" "held" "I", Cond.methodLink RX6 195 yX3_forget, Cond.instanceMethod yX3_forget, Cond.selects RX3 yX3_forget yX3_forget, Cond.code yX3_forget cX3_forget 4 none, Cond.methodLink RX3 40 yX3_has, Cond.instanceMethod yX3_has, Cond.selects RX3 yX3_has yX3_has, Cond.code yX3_has cX3_has 2 (some .boolean), Cond.methodLink RX6 198 yX3_add, Cond.instanceMethod yX3_add, Cond.selects RX3 yX3_add yX3_add, Cond.code yX3_add cX3_add 3 (some .int), Cond.methodLink RX3 36 yX2_begin, Cond.instanceMethod yX2_begin, Cond.selects RX2 yX2_begin yX2_begin, Cond.code yX2_begin cX2_begin 2 none, Cond.fieldLink RX2 22 "NeighborBook$Neighbor" "frames" "I", Cond.methodLink RX6 201 yX4_greet, Cond.instanceMethod yX4_greet, Cond.selects RX4 yX4_greet yX4_greet, Cond.initialized RX4]
def wsX6_learn_r4 : List Cond := [Cond.code yX4_greet cX4_greet 2 none, Cond.fieldLink RX4 15 "NeighborBook$Port" "quickLeft" "I", Cond.methodLink RX4 25 Lib.Math.max.name, Cond.static Lib.Math.max.name, Cond.initialized "java/lang/Math", Cond.code Lib.Math.max.name Lib.Math.max.code 2 (some .int), Cond.fieldLink RX4 19 "NeighborBook$Port" "waitLeft" "I", Cond.methodLink RX6 153 yX3_at, Cond.instanceMethod yX3_at, Cond.selects RX3 yX3_at yX3_at, Cond.code yX3_at cX3_at 2 (some (.object "NeighborBook$Neighbor")), Cond.methodLink RX6 204 yX2_renew, Cond.instanceMethod yX2_renew, Cond.selects RX2 yX2_renew yX2_renew, Cond.code yX2_renew cX2_renew 4 (some (.object "NeighborBook$Contents")), Cond.fieldLink RX2 25 "NeighborBook$Neighbor" "ticksLeft" "I", Cond.methodLink RX6 208 yX1_useNext, Cond.instanceMethod yX1_useNext, Cond.selects RX1 yX1_useNext yX1_useNext, Cond.code yX1_useNext cX1_useNext 2 none]
def wsX6_learn : List Cond := .code yX6_learn cX6_learn 4 (some .int) :: ((wsX6_learn_r1 ++ (wsX6_learn_r2 ++ (wsX6_learn_r3 ++ wsX6_learn_r4))) ++ wsX60 ++ wsX10 ++ wsX30 ++ wsX20 ++ wsX00 ++ wsX40)
def wsX6_hear_r1 : List Cond := [Cond.fieldLink RX6 22 "NeighborBook" "ports" "[LNeighborBook$Port;", Cond.fieldLink RX6 36 "NeighborBook" "reader" "LNeighborBook$FrameReader;", Cond.fieldLink RX6 9 "NeighborBook" "typed" "[B", Cond.fieldLink RX6 65 "NeighborBook" "typedCount" "I", Cond.fieldLink RX6 112 "NeighborBook" "latestFault" "I", Cond.methodLink RX6 79 yX6_isPort, Cond.static yX6_isPort, Cond.initialized RX6, Cond.code yX6_isPort cX6_isPort 1 (some .boolean), Cond.methodLink RX6 83 yX4_isUp, Cond.instanceMethod yX4_isUp, Cond.selects RX4 yX4_isUp yX4_isUp, Cond.initialized RX4, Cond.code yX4_isUp cX4_isUp 1 (some .boolean), Cond.fieldLink RX4 9 "NeighborBook$Port" "up" "Z", Cond.methodLink RX6 100 yX1_read, Cond.instanceMethod yX1_read, Cond.selects RX1 yX1_read yX1_read, Cond.initialized RX1, Cond.code yX1_read cX1_read 10 (some .int), Cond.fieldLink RX1 12 "NeighborBook$FrameReader" "contents" "LNeighborBook$Contents;", Cond.methodLink RX1 22 yX0_clear, Cond.instanceMethod yX0_clear, Cond.selects RX0 yX0_clear yX0_clear]
def wsX6_hear_r2 : List Cond := [Cond.initialized RX0, Cond.code yX0_clear cX0_clear 1 none, Cond.fieldLink RX0 9 "NeighborBook$Contents" "sizes" "[I", Cond.methodLink RX0 26 yJ7_fill_53178, Cond.static yJ7_fill_53178, Cond.initialized RJ7, Cond.code yJ7_fill_53178 cJ7_fill_53178 4 none, Cond.methodLink RX1 25 yX1_pairAt, Cond.static yX1_pairAt, Cond.code yX1_pairAt cX1_pairAt 2 (some .int), Cond.methodLink RX1 29 yX1_faultOfPart, Cond.instanceMethod yX1_faultOfPart, Cond.selects RX1 yX1_faultOfPart yX1_faultOfPart, Cond.code yX1_faultOfPart cX1_faultOfPart 5 (some .int), Cond.methodLink RX1 37 yX1_isOutOfOrder, Cond.static yX1_isOutOfOrder, Cond.code yX1_isOutOfOrder cX1_isOutOfOrder 2 (some .boolean), Cond.methodLink RX1 41 yX1_isWrongSize, Cond.static yX1_isWrongSize, Cond.code yX1_isWrongSize cX1_isWrongSize 2 (some .boolean), Cond.static yX6_isMore, Cond.code yX6_isMore cX6_isMore 1 (some .boolean), Cond.methodLink RX1 48 yX0_has, Cond.instanceMethod yX0_has]
def wsX6_hear_r3 : List Cond := [Cond.selects RX0 yX0_has yX0_has, Cond.code yX0_has cX0_has 2 (some .boolean), Cond.methodLink RX0 48 yX0_sizeOf, Cond.instanceMethod yX0_sizeOf, Cond.selects RX0 yX0_sizeOf yX0_sizeOf, Cond.code yX0_sizeOf cX0_sizeOf 2 (some .int), Cond.methodLink RX1 33 yX1_takePart, Cond.instanceMethod yX1_takePart, Cond.selects RX1 yX1_takePart yX1_takePart, Cond.code yX1_takePart cX1_takePart 5 none, Cond.fieldLink RX1 18 "NeighborBook$FrameReader" "held" "I", Cond.methodLink RX1 51 yX0_keep, Cond.instanceMethod yX0_keep, Cond.selects RX0 yX0_keep yX0_keep, Cond.code yX0_keep cX0_keep 5 none, Cond.fieldLink RX0 15 "NeighborBook$Contents" "bytes" "[B", Cond.methodLink RX0 39 arraycopyName, Cond.native arraycopyName, Cond.static arraycopyName, Cond.initialized "java/lang/System", Cond.methodLink RX0 32 yX0_isKept, Cond.static yX0_isKept, Cond.code yX0_isKept cX0_isKept 1 (some .boolean), Cond.methodLink RX0 35 yX0_startOf]
def wsX6_hear_r4 : List Cond := [Cond.static yX0_startOf, Cond.code yX0_startOf cX0_startOf 1 (some .int), Cond.methodLink RX6 104 yX6_learn, Cond.instanceMethod yX6_learn, Cond.selects RX6 yX6_learn yX6_learn, Cond.code yX6_learn cX6_learn 4 (some .int), Cond.fieldLink RX6 29 "NeighborBook" "known" "LNeighborBook$Neighbors;", Cond.fieldLink RX6 54 "NeighborBook" "quick" "I", Cond.methodLink RX6 191 yX1_contents, Cond.instanceMethod yX1_contents, Cond.selects RX1 yX1_contents yX1_contents, Cond.code yX1_contents cX1_contents 1 (some (.object "NeighborBook$Contents")), Cond.methodLink RX6 170 yX3_find, Cond.instanceMethod yX3_find, Cond.selects RX3 yX3_find yX3_find, Cond.initialized RX3, Cond.code yX3_find cX3_find 4 (some .int), Cond.fieldLink RX3 18 "NeighborBook$Neighbors" "size" "I", Cond.fieldLink RX3 11 "NeighborBook$Neighbors" "rows" "[LNeighborBook$Neighbor;", Cond.methodLink RX3 22 yX2_portOf, Cond.instanceMethod yX2_portOf, Cond.selects RX2 yX2_portOf yX2_portOf, Cond.initialized RX2, Cond.code yX2_portOf cX2_portOf 1 (some .int)]
def wsX6_hear_r5 : List Cond := [Cond.fieldLink RX2 18 "NeighborBook$Neighbor" "port" "I", Cond.methodLink RX3 26 yX2_contents, Cond.instanceMethod yX2_contents, Cond.selects RX2 yX2_contents yX2_contents, Cond.code yX2_contents cX2_contents 1 (some (.object "NeighborBook$Contents")), Cond.fieldLink RX2 12 "NeighborBook$Neighbor" "contents" "LNeighborBook$Contents;", Cond.methodLink RX3 30 yX0_isSameStation, Cond.instanceMethod yX0_isSameStation, Cond.selects RX0 yX0_isSameStation yX0_isSameStation, Cond.code yX0_isSameStation cX0_isSameStation 2 (some .boolean), Cond.methodLink RX0 51 yX0_isSame, Cond.instanceMethod yX0_isSame, Cond.selects RX0 yX0_isSame yX0_isSame, Cond.code yX0_isSame cX0_isSame 7 (some .boolean), Cond.methodLink RX6 192 yX1_held, Cond.instanceMethod yX1_held, Cond.selects RX1 yX1_held yX1_held, Cond.code yX1_held cX1_held 1 (some .int), Cond.methodLink RX6 195 yX3_forget, Cond.instanceMethod yX3_forget, Cond.selects RX3 yX3_forget yX3_forget, Cond.code yX3_forget cX3_forget 4 none, Cond.methodLink RX3 40 yX3_has, Cond.instanceMethod yX3_has]
def wsX6_hear_r6 : List Cond := [Cond.selects RX3 yX3_has yX3_has, Cond.code yX3_has cX3_has 2 (some .boolean), Cond.methodLink RX6 198 yX3_add, Cond.instanceMethod yX3_add, Cond.selects RX3 yX3_add yX3_add, Cond.code yX3_add cX3_add 3 (some .int), Cond.methodLink RX3 36 yX2_begin, Cond.instanceMethod yX2_begin, Cond.selects RX2 yX2_begin yX2_begin, Cond.code yX2_begin cX2_begin 2 none, Cond.fieldLink RX2 22 "NeighborBook$Neighbor" "frames" "I", Cond.methodLink RX6 201 yX4_greet, Cond.instanceMethod yX4_greet, Cond.selects RX4 yX4_greet yX4_greet, Cond.code yX4_greet cX4_greet 2 none, Cond.fieldLink RX4 15 "NeighborBook$Port" "quickLeft" "I", Cond.methodLink RX4 25 Lib.Math.max.name, Cond.static Lib.Math.max.name, Cond.initialized "java/lang/Math", Cond.code Lib.Math.max.name Lib.Math.max.code 2 (some .int), Cond.fieldLink RX4 19 "NeighborBook$Port" "waitLeft" "I", Cond.methodLink RX6 153 yX3_at, Cond.instanceMethod yX3_at, Cond.selects RX3 yX3_at yX3_at]
def wsX6_hear_r7 : List Cond := [Cond.code yX3_at cX3_at 2 (some (.object "NeighborBook$Neighbor")), Cond.methodLink RX6 204 yX2_renew, Cond.instanceMethod yX2_renew, Cond.selects RX2 yX2_renew yX2_renew, Cond.code yX2_renew cX2_renew 4 (some (.object "NeighborBook$Contents")), Cond.fieldLink RX2 25 "NeighborBook$Neighbor" "ticksLeft" "I", Cond.methodLink RX6 208 yX1_useNext, Cond.instanceMethod yX1_useNext, Cond.selects RX1 yX1_useNext yX1_useNext, Cond.code yX1_useNext cX1_useNext 2 none, Cond.methodLink RX6 108 yX4_noteHeard, Cond.instanceMethod yX4_noteHeard, Cond.selects RX4 yX4_noteHeard yX4_noteHeard, Cond.code yX4_noteHeard cX4_noteHeard 2 none, Cond.fieldLink RX4 31 "NeighborBook$Port" "heardWell" "I", Cond.fieldLink RX4 34 "NeighborBook$Port" "heardFaulty" "I"]
def wsX6_hear : List Cond := .code yX6_hear cX6_hear 3 (some .int) :: ((wsX6_hear_r1 ++ (wsX6_hear_r2 ++ (wsX6_hear_r3 ++ (wsX6_hear_r4 ++ (wsX6_hear_r5 ++ (wsX6_hear_r6 ++ wsX6_hear_r7)))))) ++ wsX60 ++ wsX40 ++ wsX10 ++ wsX00 ++ wsX30 ++ wsX20)
def wsX6_tick_r1 : List Cond := [Cond.fieldLink RX6 115 "NeighborBook" "ticks" "I", Cond.constant RX6 118 (2147483647), Cond.fieldLink RX6 29 "NeighborBook" "known" "LNeighborBook$Neighbors;", Cond.fieldLink RX6 22 "NeighborBook" "ports" "[LNeighborBook$Port;", Cond.fieldLink RX6 47 "NeighborBook" "interval" "I", Cond.fieldLink RX6 43 "NeighborBook" "latest" "LNeighborBook$SentFrame;", Cond.fieldLink RX6 16 "NeighborBook" "told" "LNeighborBook$Contents;", Cond.fieldLink RX6 51 "NeighborBook" "hold" "I", Cond.constant RX6 124 (65535), Cond.methodLink RX6 125 Lib.Math.min.name, Cond.static Lib.Math.min.name, Cond.initialized "java/lang/Math", Cond.code Lib.Math.min.name Lib.Math.min.code 2 (some .int), Cond.methodLink RX6 119 yX3_passTick, Cond.instanceMethod yX3_passTick, Cond.selects RX3 yX3_passTick yX3_passTick, Cond.initialized RX3, Cond.code yX3_passTick cX3_passTick 2 none, Cond.fieldLink RX3 18 "NeighborBook$Neighbors" "size" "I", Cond.fieldLink RX3 11 "NeighborBook$Neighbors" "rows" "[LNeighborBook$Neighbor;", Cond.methodLink RX3 47 yX2_passTick, Cond.instanceMethod yX2_passTick, Cond.selects RX2 yX2_passTick yX2_passTick, Cond.initialized RX2]
def wsX6_tick_r2 : List Cond := [Cond.code yX2_passTick cX2_passTick 1 (some .boolean), Cond.fieldLink RX2 25 "NeighborBook$Neighbor" "ticksLeft" "I", Cond.methodLink RX3 44 yX3_forget, Cond.instanceMethod yX3_forget, Cond.selects RX3 yX3_forget yX3_forget, Cond.code yX3_forget cX3_forget 4 none, Cond.methodLink RX3 40 yX3_has, Cond.instanceMethod yX3_has, Cond.selects RX3 yX3_has yX3_has, Cond.code yX3_has cX3_has 2 (some .boolean), Cond.methodLink RX6 122 yX4_passTick, Cond.instanceMethod yX4_passTick, Cond.selects RX4 yX4_passTick yX4_passTick, Cond.initialized RX4, Cond.code yX4_passTick cX4_passTick 2 (some .boolean), Cond.fieldLink RX4 9 "NeighborBook$Port" "up" "Z", Cond.fieldLink RX4 19 "NeighborBook$Port" "waitLeft" "I", Cond.fieldLink RX4 22 "NeighborBook$Port" "framesSent" "I", Cond.fieldLink RX4 15 "NeighborBook$Port" "quickLeft" "I", Cond.methodLink RX6 93 yX5_write, Cond.instanceMethod yX5_write, Cond.selects RX5 yX5_write yX5_write, Cond.initialized RX5, Cond.code yX5_write cX5_write 5 none]
def wsX6_tick_r3 : List Cond := [Cond.fieldLink RX5 15 "NeighborBook$SentFrame" "port" "I", Cond.fieldLink RX5 19 "NeighborBook$SentFrame" "length" "I", Cond.methodLink RX5 22 yX0_sizeOf, Cond.instanceMethod yX0_sizeOf, Cond.selects RX0 yX0_sizeOf yX0_sizeOf, Cond.initialized RX0, Cond.code yX0_sizeOf cX0_sizeOf 2 (some .int), Cond.fieldLink RX0 9 "NeighborBook$Contents" "sizes" "[I", Cond.methodLink RX5 28 yX5_putHead, Cond.instanceMethod yX5_putHead, Cond.selects RX5 yX5_putHead yX5_putHead, Cond.code yX5_putHead cX5_putHead 4 none, Cond.methodLink RX5 36 yX5_putByte, Cond.instanceMethod yX5_putByte, Cond.selects RX5 yX5_putByte yX5_putByte, Cond.code yX5_putByte cX5_putByte 2 none, Cond.fieldLink RX5 9 "NeighborBook$SentFrame" "bytes" "[B", Cond.methodLink RX5 32 yX5_putContent, Cond.instanceMethod yX5_putContent, Cond.selects RX5 yX5_putContent yX5_putContent, Cond.code yX5_putContent cX5_putContent 5 none, Cond.methodLink RX5 44 yX0_byteAt, Cond.instanceMethod yX0_byteAt, Cond.selects RX0 yX0_byteAt yX0_byteAt]
def wsX6_tick_r4 : List Cond := [Cond.code yX0_byteAt cX0_byteAt 3 (some .int), Cond.fieldLink RX0 15 "NeighborBook$Contents" "bytes" "[B", Cond.methodLink RX0 48 yX0_sizeOf, Cond.methodLink RX0 35 yX0_startOf, Cond.static yX0_startOf, Cond.code yX0_startOf cX0_startOf 1 (some .int), Cond.methodLink RX5 40 yX0_has, Cond.instanceMethod yX0_has, Cond.selects RX0 yX0_has yX0_has, Cond.code yX0_has cX0_has 2 (some .boolean)]
def wsX6_tick : List Cond := .code yX6_tick cX6_tick 6 (some .int) :: ((wsX6_tick_r1 ++ (wsX6_tick_r2 ++ (wsX6_tick_r3 ++ wsX6_tick_r4))) ++ wsX60 ++ wsX30 ++ wsX20 ++ wsX40 ++ wsX50 ++ wsX00)
def wsX6_about_r1 : List Cond := [Cond.fieldLink RX6 29 "NeighborBook" "known" "LNeighborBook$Neighbors;", Cond.fieldLink RX6 22 "NeighborBook" "ports" "[LNeighborBook$Port;", Cond.methodLink RX6 79 yX6_isPort, Cond.static yX6_isPort, Cond.initialized RX6, Cond.code yX6_isPort cX6_isPort 1 (some .boolean), Cond.methodLink RX6 131 yX3_sizeAt, Cond.instanceMethod yX3_sizeAt, Cond.selects RX3 yX3_sizeAt yX3_sizeAt, Cond.initialized RX3, Cond.code yX3_sizeAt cX3_sizeAt 4 (some .int), Cond.fieldLink RX3 18 "NeighborBook$Neighbors" "size" "I", Cond.fieldLink RX3 11 "NeighborBook$Neighbors" "rows" "[LNeighborBook$Neighbor;", Cond.methodLink RX3 22 yX2_portOf, Cond.instanceMethod yX2_portOf, Cond.selects RX2 yX2_portOf yX2_portOf, Cond.initialized RX2, Cond.code yX2_portOf cX2_portOf 1 (some .int), Cond.fieldLink RX2 18 "NeighborBook$Neighbor" "port" "I", Cond.methodLink RX6 134 yX4_tellAbout, Cond.instanceMethod yX4_tellAbout, Cond.selects RX4 yX4_tellAbout yX4_tellAbout, Cond.initialized RX4, Cond.code yX4_tellAbout cX4_tellAbout 2 (some .int)]
def wsX6_about_r2 : List Cond := [Cond.fieldLink RX4 9 "NeighborBook$Port" "up" "Z", Cond.fieldLink RX4 22 "NeighborBook$Port" "framesSent" "I", Cond.fieldLink RX4 31 "NeighborBook$Port" "heardWell" "I", Cond.fieldLink RX4 34 "NeighborBook$Port" "heardFaulty" "I", Cond.fieldLink RX4 19 "NeighborBook$Port" "waitLeft" "I", Cond.fieldLink RX4 15 "NeighborBook$Port" "quickLeft" "I"]
def wsX6_about : List Cond := .code yX6_about cX6_about 3 (some .int) :: ((wsX6_about_r1 ++ wsX6_about_r2) ++ wsX60 ++ wsX30 ++ wsX20 ++ wsX40)
def wsX6_count : List Cond := .code yX6_count cX6_count 2 (some .int) :: ([.fieldLink RX6 29 "NeighborBook" "known" "LNeighborBook$Neighbors;", .fieldLink RX6 115 "NeighborBook" "ticks" "I", .fieldLink RX6 112 "NeighborBook" "latestFault" "I", .fieldLink RX6 65 "NeighborBook" "typedCount" "I", .fieldLink RX6 43 "NeighborBook" "latest" "LNeighborBook$SentFrame;", .methodLink RX6 137 yX3_size, .instanceMethod yX3_size, .selects RX3 yX3_size yX3_size, .initialized RX3, .code yX3_size cX3_size 1 (some .int), .fieldLink RX3 18 "NeighborBook$Neighbors" "size" "I", .methodLink RX6 141 yX5_portOf, .instanceMethod yX5_portOf, .selects RX5 yX5_portOf yX5_portOf, .initialized RX5, .code yX5_portOf cX5_portOf 1 (some .int), .fieldLink RX5 15 "NeighborBook$SentFrame" "port" "I", .methodLink RX6 144 yX5_length, .instanceMethod yX5_length, .selects RX5 yX5_length yX5_length, .code yX5_length cX5_length 1 (some .int), .fieldLink RX5 19 "NeighborBook$SentFrame" "length" "I"] ++ wsX60 ++ wsX30 ++ wsX50)
def wsX6_sent : List Cond := .code yX6_sent cX6_sent 2 (some .int) :: ([.fieldLink RX6 43 "NeighborBook" "latest" "LNeighborBook$SentFrame;", .methodLink RX6 147 yX5_byteAt, .instanceMethod yX5_byteAt, .selects RX5 yX5_byteAt yX5_byteAt, .initialized RX5, .code yX5_byteAt cX5_byteAt 2 (some .int), .fieldLink RX5 19 "NeighborBook$SentFrame" "length" "I", .fieldLink RX5 9 "NeighborBook$SentFrame" "bytes" "[B"] ++ wsX60 ++ wsX50)
def wsX6_neighbor_r1 : List Cond := [Cond.fieldLink RX6 29 "NeighborBook" "known" "LNeighborBook$Neighbors;", Cond.methodLink RX6 150 yX3_has, Cond.instanceMethod yX3_has, Cond.selects RX3 yX3_has yX3_has, Cond.initialized RX3, Cond.code yX3_has cX3_has 2 (some .boolean), Cond.fieldLink RX3 18 "NeighborBook$Neighbors" "size" "I", Cond.methodLink RX6 153 yX3_at, Cond.instanceMethod yX3_at, Cond.selects RX3 yX3_at yX3_at, Cond.code yX3_at cX3_at 2 (some (.object "NeighborBook$Neighbor")), Cond.fieldLink RX3 11 "NeighborBook$Neighbors" "rows" "[LNeighborBook$Neighbor;", Cond.methodLink RX6 157 yX2_tellAbout, Cond.instanceMethod yX2_tellAbout, Cond.selects RX2 yX2_tellAbout yX2_tellAbout, Cond.initialized RX2, Cond.code yX2_tellAbout cX2_tellAbout 2 (some .int), Cond.fieldLink RX2 18 "NeighborBook$Neighbor" "port" "I", Cond.fieldLink RX2 25 "NeighborBook$Neighbor" "ticksLeft" "I", Cond.fieldLink RX2 22 "NeighborBook$Neighbor" "frames" "I", Cond.fieldLink RX2 12 "NeighborBook$Neighbor" "contents" "LNeighborBook$Contents;", Cond.methodLink RX2 28 yX0_typeBits, Cond.instanceMethod yX0_typeBits, Cond.selects RX0 yX0_typeBits yX0_typeBits]
def wsX6_neighbor_r2 : List Cond := [Cond.initialized RX0, Cond.code yX0_typeBits cX0_typeBits 3 (some .int), Cond.methodLink RX0 45 yX0_has, Cond.instanceMethod yX0_has, Cond.selects RX0 yX0_has yX0_has, Cond.code yX0_has cX0_has 2 (some .boolean), Cond.methodLink RX0 48 yX0_sizeOf, Cond.instanceMethod yX0_sizeOf, Cond.selects RX0 yX0_sizeOf yX0_sizeOf, Cond.code yX0_sizeOf cX0_sizeOf 2 (some .int), Cond.fieldLink RX0 9 "NeighborBook$Contents" "sizes" "[I"]
def wsX6_neighbor : List Cond := .code yX6_neighbor cX6_neighbor 3 (some .int) :: ((wsX6_neighbor_r1 ++ wsX6_neighbor_r2) ++ wsX60 ++ wsX30 ++ wsX20 ++ wsX00)
def wsX6_content_r1 : List Cond := [Cond.fieldLink RX6 29 "NeighborBook" "known" "LNeighborBook$Neighbors;", Cond.methodLink RX6 150 yX3_has, Cond.instanceMethod yX3_has, Cond.selects RX3 yX3_has yX3_has, Cond.initialized RX3, Cond.code yX3_has cX3_has 2 (some .boolean), Cond.fieldLink RX3 18 "NeighborBook$Neighbors" "size" "I", Cond.methodLink RX6 153 yX3_at, Cond.instanceMethod yX3_at, Cond.selects RX3 yX3_at yX3_at, Cond.code yX3_at cX3_at 2 (some (.object "NeighborBook$Neighbor")), Cond.fieldLink RX3 11 "NeighborBook$Neighbors" "rows" "[LNeighborBook$Neighbor;", Cond.methodLink RX6 160 yX2_contents, Cond.instanceMethod yX2_contents, Cond.selects RX2 yX2_contents yX2_contents, Cond.initialized RX2, Cond.code yX2_contents cX2_contents 1 (some (.object "NeighborBook$Contents")), Cond.fieldLink RX2 12 "NeighborBook$Neighbor" "contents" "LNeighborBook$Contents;", Cond.methodLink RX6 164 yX0_sizeOf, Cond.instanceMethod yX0_sizeOf, Cond.selects RX0 yX0_sizeOf yX0_sizeOf, Cond.initialized RX0, Cond.code yX0_sizeOf cX0_sizeOf 2 (some .int), Cond.fieldLink RX0 9 "NeighborBook$Contents" "sizes" "[I"]
def wsX6_content_r2 : List Cond := [Cond.methodLink RX6 167 yX0_byteAt, Cond.instanceMethod yX0_byteAt, Cond.selects RX0 yX0_byteAt yX0_byteAt, Cond.code yX0_byteAt cX0_byteAt 3 (some .int), Cond.fieldLink RX0 15 "NeighborBook$Contents" "bytes" "[B", Cond.methodLink RX0 48 yX0_sizeOf, Cond.methodLink RX0 35 yX0_startOf, Cond.static yX0_startOf, Cond.code yX0_startOf cX0_startOf 1 (some .int)]
def wsX6_content : List Cond := .code yX6_content cX6_content 5 (some .int) :: ((wsX6_content_r1 ++ wsX6_content_r2) ++ wsX60 ++ wsX30 ++ wsX20 ++ wsX00)
def wsX6_check_r1 : List Cond := [Cond.fieldLink RX6 29 "NeighborBook" "known" "LNeighborBook$Neighbors;", Cond.fieldLink RX6 22 "NeighborBook" "ports" "[LNeighborBook$Port;", Cond.methodLink RX6 137 yX3_size, Cond.instanceMethod yX3_size, Cond.selects RX3 yX3_size yX3_size, Cond.initialized RX3, Cond.code yX3_size cX3_size 1 (some .int), Cond.fieldLink RX3 18 "NeighborBook$Neighbors" "size" "I", Cond.methodLink RX6 153 yX3_at, Cond.instanceMethod yX3_at, Cond.selects RX3 yX3_at yX3_at, Cond.code yX3_at cX3_at 2 (some (.object "NeighborBook$Neighbor")), Cond.fieldLink RX3 11 "NeighborBook$Neighbors" "rows" "[LNeighborBook$Neighbor;", Cond.methodLink RX6 169 yX2_portOf, Cond.instanceMethod yX2_portOf, Cond.selects RX2 yX2_portOf yX2_portOf, Cond.initialized RX2, Cond.code yX2_portOf cX2_portOf 1 (some .int), Cond.fieldLink RX2 18 "NeighborBook$Neighbor" "port" "I", Cond.methodLink RX6 79 yX6_isPort, Cond.static yX6_isPort, Cond.initialized RX6, Cond.code yX6_isPort cX6_isPort 1 (some .boolean), Cond.methodLink RX6 83 yX4_isUp]
def wsX6_check_r2 : List Cond := [Cond.instanceMethod yX4_isUp, Cond.selects RX4 yX4_isUp yX4_isUp, Cond.initialized RX4, Cond.code yX4_isUp cX4_isUp 1 (some .boolean), Cond.fieldLink RX4 9 "NeighborBook$Port" "up" "Z", Cond.methodLink RX6 160 yX2_contents, Cond.instanceMethod yX2_contents, Cond.selects RX2 yX2_contents yX2_contents, Cond.code yX2_contents cX2_contents 1 (some (.object "NeighborBook$Contents")), Cond.fieldLink RX2 12 "NeighborBook$Neighbor" "contents" "LNeighborBook$Contents;", Cond.methodLink RX6 170 yX3_find, Cond.instanceMethod yX3_find, Cond.selects RX3 yX3_find yX3_find, Cond.code yX3_find cX3_find 4 (some .int), Cond.methodLink RX3 22 yX2_portOf, Cond.methodLink RX3 26 yX2_contents, Cond.methodLink RX3 30 yX0_isSameStation, Cond.instanceMethod yX0_isSameStation, Cond.selects RX0 yX0_isSameStation yX0_isSameStation, Cond.initialized RX0, Cond.code yX0_isSameStation cX0_isSameStation 2 (some .boolean), Cond.fieldLink RX0 15 "NeighborBook$Contents" "bytes" "[B", Cond.methodLink RX0 35 yX0_startOf, Cond.static yX0_startOf]
def wsX6_check_r3 : List Cond := [Cond.code yX0_startOf cX0_startOf 1 (some .int), Cond.methodLink RX0 48 yX0_sizeOf, Cond.instanceMethod yX0_sizeOf, Cond.selects RX0 yX0_sizeOf yX0_sizeOf, Cond.code yX0_sizeOf cX0_sizeOf 2 (some .int), Cond.fieldLink RX0 9 "NeighborBook$Contents" "sizes" "[I", Cond.methodLink RX0 51 yX0_isSame, Cond.instanceMethod yX0_isSame, Cond.selects RX0 yX0_isSame yX0_isSame, Cond.code yX0_isSame cX0_isSame 7 (some .boolean)]
def wsX6_check : List Cond := .code yX6_check cX6_check 3 (some .int) :: ((wsX6_check_r1 ++ (wsX6_check_r2 ++ wsX6_check_r3)) ++ wsX60 ++ wsX30 ++ wsX20 ++ wsX40 ++ wsX00)
def wsX7_init_r1 : List Cond := [Cond.methodLink RX7 1 objectInit, Cond.instanceMethod objectInit, Cond.code objectInit ⟨#[0xb1]⟩ 1 none, Cond.arrayClass .byte, Cond.fieldLink RX7 7 "NeighborBookModel" "typed" "[B", Cond.fieldLink RX7 13 "NeighborBookModel" "own" "[B", Cond.arrayClass .int, Cond.fieldLink RX7 16 "NeighborBookModel" "ownSizes" "[I", Cond.fieldLink RX7 20 "NeighborBookModel" "interval" "I", Cond.fieldLink RX7 24 "NeighborBookModel" "hold" "I", Cond.fieldLink RX7 27 "NeighborBookModel" "quick" "I", Cond.arrayClass .boolean, Cond.fieldLink RX7 30 "NeighborBookModel" "up" "[Z", Cond.fieldLink RX7 34 "NeighborBookModel" "sentFrames" "[I", Cond.fieldLink RX7 37 "NeighborBookModel" "good" "[I", Cond.fieldLink RX7 40 "NeighborBookModel" "bad" "[I", Cond.fieldLink RX7 43 "NeighborBookModel" "waits" "[I", Cond.fieldLink RX7 46 "NeighborBookModel" "quicks" "[I", Cond.fieldLink RX7 49 "NeighborBookModel" "ports" "[I", Cond.fieldLink RX7 52 "NeighborBookModel" "left" "[I", Cond.fieldLink RX7 55 "NeighborBookModel" "frames" "[I", Cond.fieldLink RX7 58 "NeighborBookModel" "bytes" "[B", Cond.fieldLink RX7 61 "NeighborBookModel" "sizes" "[I", Cond.fieldLink RX7 64 "NeighborBookModel" "page" "[B"]
def wsX7_init_r2 : List Cond := [Cond.fieldLink RX7 67 "NeighborBookModel" "pagePort" "I"]
def wsX7_init : List Cond := .code yX7_init cX7_init 2 none :: ((wsX7_init_r1 ++ wsX7_init_r2) ++ wsX70)
def wsX7_isMore : List Cond := .code yX7_isMore cX7_isMore 1 (some .boolean) :: ([])
def wsX7_type : List Cond := .code yX7_type cX7_type 5 (some .int) :: ([.fieldLink RX7 70 "NeighborBookModel" "typedSize" "I", .fieldLink RX7 7 "NeighborBookModel" "typed" "[B"] ++ wsX70)
def wsX7_tell : List Cond := .code yX7_tell cX7_tell 4 (some .int) :: ([.fieldLink RX7 70 "NeighborBookModel" "typedSize" "I", .fieldLink RX7 13 "NeighborBookModel" "own" "[B", .fieldLink RX7 7 "NeighborBookModel" "typed" "[B", .fieldLink RX7 16 "NeighborBookModel" "ownSizes" "[I", .fieldLink RX7 43 "NeighborBookModel" "waits" "[I", .fieldLink RX7 30 "NeighborBookModel" "up" "[Z", .methodLink RX7 73 yX7_isMore, .static yX7_isMore, .initialized RX7, .code yX7_isMore cX7_isMore 1 (some .boolean)] ++ wsX70)
def wsX7_set : List Cond := .code yX7_set cX7_set 5 (some .int) :: ([.fieldLink RX7 20 "NeighborBookModel" "interval" "I", .fieldLink RX7 24 "NeighborBookModel" "hold" "I", .fieldLink RX7 27 "NeighborBookModel" "quick" "I"] ++ wsX70)
def wsX7_put : List Cond := .code yX7_put cX7_put 2 none :: ([.fieldLink RX7 64 "NeighborBookModel" "page" "[B", .fieldLink RX7 77 "NeighborBookModel" "pageSize" "I"] ++ wsX70)
def wsX7_head : List Cond := .code yX7_head cX7_head 3 none :: ([.methodLink RX7 80 yX7_put, .instanceMethod yX7_put, .selects RX7 yX7_put yX7_put, .initialized RX7, .code yX7_put cX7_put 2 none, .fieldLink RX7 64 "NeighborBookModel" "page" "[B", .fieldLink RX7 77 "NeighborBookModel" "pageSize" "I"] ++ wsX70)
def wsX7_send : List Cond := .code yX7_send cX7_send 5 none :: ([.fieldLink RX7 77 "NeighborBookModel" "pageSize" "I", .fieldLink RX7 67 "NeighborBookModel" "pagePort" "I", .fieldLink RX7 16 "NeighborBookModel" "ownSizes" "[I", .fieldLink RX7 13 "NeighborBookModel" "own" "[B", .fieldLink RX7 34 "NeighborBookModel" "sentFrames" "[I", .methodLink RX7 84 yX7_head, .instanceMethod yX7_head, .selects RX7 yX7_head yX7_head, .initialized RX7, .code yX7_head cX7_head 3 none, .methodLink RX7 80 yX7_put, .instanceMethod yX7_put, .selects RX7 yX7_put yX7_put, .code yX7_put cX7_put 2 none, .fieldLink RX7 64 "NeighborBookModel" "page" "[B"] ++ wsX70)
def wsX7_move : List Cond := .code yX7_move cX7_move 5 none :: ([.fieldLink RX7 49 "NeighborBookModel" "ports" "[I", .fieldLink RX7 52 "NeighborBookModel" "left" "[I", .fieldLink RX7 55 "NeighborBookModel" "frames" "[I", .fieldLink RX7 61 "NeighborBookModel" "sizes" "[I", .fieldLink RX7 58 "NeighborBookModel" "bytes" "[B"] ++ wsX70)
def wsX7_forget : List Cond := .code yX7_forget cX7_forget 3 none :: ([.fieldLink RX7 91 "NeighborBookModel" "known" "I", .methodLink RX7 97 yX7_move, .instanceMethod yX7_move, .selects RX7 yX7_move yX7_move, .initialized RX7, .code yX7_move cX7_move 5 none, .fieldLink RX7 49 "NeighborBookModel" "ports" "[I", .fieldLink RX7 52 "NeighborBookModel" "left" "[I", .fieldLink RX7 55 "NeighborBookModel" "frames" "[I", .fieldLink RX7 61 "NeighborBookModel" "sizes" "[I", .fieldLink RX7 58 "NeighborBookModel" "bytes" "[B"] ++ wsX70)
def wsX7_port_r1 : List Cond := [Cond.fieldLink RX7 30 "NeighborBookModel" "up" "[Z", Cond.fieldLink RX7 43 "NeighborBookModel" "waits" "[I", Cond.fieldLink RX7 46 "NeighborBookModel" "quicks" "[I", Cond.fieldLink RX7 27 "NeighborBookModel" "quick" "I", Cond.fieldLink RX7 91 "NeighborBookModel" "known" "I", Cond.fieldLink RX7 49 "NeighborBookModel" "ports" "[I", Cond.methodLink RX7 88 yX7_send, Cond.instanceMethod yX7_send, Cond.selects RX7 yX7_send yX7_send, Cond.initialized RX7, Cond.code yX7_send cX7_send 5 none, Cond.fieldLink RX7 77 "NeighborBookModel" "pageSize" "I", Cond.fieldLink RX7 67 "NeighborBookModel" "pagePort" "I", Cond.fieldLink RX7 16 "NeighborBookModel" "ownSizes" "[I", Cond.fieldLink RX7 13 "NeighborBookModel" "own" "[B", Cond.fieldLink RX7 34 "NeighborBookModel" "sentFrames" "[I", Cond.methodLink RX7 84 yX7_head, Cond.instanceMethod yX7_head, Cond.selects RX7 yX7_head yX7_head, Cond.code yX7_head cX7_head 3 none, Cond.methodLink RX7 80 yX7_put, Cond.instanceMethod yX7_put, Cond.selects RX7 yX7_put yX7_put, Cond.code yX7_put cX7_put 2 none]
def wsX7_port_r2 : List Cond := [Cond.fieldLink RX7 64 "NeighborBookModel" "page" "[B", Cond.methodLink RX7 94 yX7_forget, Cond.instanceMethod yX7_forget, Cond.selects RX7 yX7_forget yX7_forget, Cond.code yX7_forget cX7_forget 3 none, Cond.methodLink RX7 97 yX7_move, Cond.instanceMethod yX7_move, Cond.selects RX7 yX7_move yX7_move, Cond.code yX7_move cX7_move 5 none, Cond.fieldLink RX7 52 "NeighborBookModel" "left" "[I", Cond.fieldLink RX7 55 "NeighborBookModel" "frames" "[I", Cond.fieldLink RX7 61 "NeighborBookModel" "sizes" "[I", Cond.fieldLink RX7 58 "NeighborBookModel" "bytes" "[B"]
def wsX7_port : List Cond := .code yX7_port cX7_port 4 (some .int) :: ((wsX7_port_r1 ++ wsX7_port_r2) ++ wsX70)
def wsX7_isAlike : List Cond := .code yX7_isAlike cX7_isAlike 6 (some .boolean) :: ([.fieldLink RX7 49 "NeighborBookModel" "ports" "[I", .fieldLink RX7 61 "NeighborBookModel" "sizes" "[I", .fieldLink RX7 58 "NeighborBookModel" "bytes" "[B"] ++ wsX70)
def wsX7_parse : List Cond := .code yX7_parse cX7_parse 7 (some .int) :: ([.fieldLink RX7 61 "NeighborBookModel" "sizes" "[I", .fieldLink RX7 70 "NeighborBookModel" "typedSize" "I", .fieldLink RX7 7 "NeighborBookModel" "typed" "[B", .fieldLink RX7 52 "NeighborBookModel" "left" "[I", .fieldLink RX7 58 "NeighborBookModel" "bytes" "[B", .methodLink RX7 73 yX7_isMore, .static yX7_isMore, .initialized RX7, .code yX7_isMore cX7_isMore 1 (some .boolean)] ++ wsX70)
def wsX7_heard_r1 : List Cond := [Cond.fieldLink RX7 49 "NeighborBookModel" "ports" "[I", Cond.fieldLink RX7 91 "NeighborBookModel" "known" "I", Cond.fieldLink RX7 52 "NeighborBookModel" "left" "[I", Cond.fieldLink RX7 55 "NeighborBookModel" "frames" "[I", Cond.fieldLink RX7 46 "NeighborBookModel" "quicks" "[I", Cond.fieldLink RX7 27 "NeighborBookModel" "quick" "I", Cond.fieldLink RX7 43 "NeighborBookModel" "waits" "[I", Cond.methodLink RX7 100 yX7_parse, Cond.instanceMethod yX7_parse, Cond.selects RX7 yX7_parse yX7_parse, Cond.initialized RX7, Cond.code yX7_parse cX7_parse 7 (some .int), Cond.fieldLink RX7 61 "NeighborBookModel" "sizes" "[I", Cond.fieldLink RX7 70 "NeighborBookModel" "typedSize" "I", Cond.fieldLink RX7 7 "NeighborBookModel" "typed" "[B", Cond.fieldLink RX7 58 "NeighborBookModel" "bytes" "[B", Cond.methodLink RX7 73 yX7_isMore, Cond.static yX7_isMore, Cond.code yX7_isMore cX7_isMore 1 (some .boolean), Cond.methodLink RX7 104 yX7_isAlike, Cond.instanceMethod yX7_isAlike, Cond.selects RX7 yX7_isAlike yX7_isAlike, Cond.code yX7_isAlike cX7_isAlike 6 (some .boolean), Cond.methodLink RX7 94 yX7_forget]
def wsX7_heard_r2 : List Cond := [Cond.instanceMethod yX7_forget, Cond.selects RX7 yX7_forget yX7_forget, Cond.code yX7_forget cX7_forget 3 none, Cond.methodLink RX7 97 yX7_move, Cond.instanceMethod yX7_move, Cond.selects RX7 yX7_move yX7_move, Cond.code yX7_move cX7_move 5 none]
def wsX7_heard : List Cond := .code yX7_heard cX7_heard 5 (some .int) :: ((wsX7_heard_r1 ++ wsX7_heard_r2) ++ wsX70)
def wsX7_hear_r1 : List Cond := [Cond.fieldLink RX7 30 "NeighborBookModel" "up" "[Z", Cond.fieldLink RX7 112 "NeighborBookModel" "fault" "I", Cond.fieldLink RX7 70 "NeighborBookModel" "typedSize" "I", Cond.fieldLink RX7 37 "NeighborBookModel" "good" "[I", Cond.fieldLink RX7 40 "NeighborBookModel" "bad" "[I", Cond.methodLink RX7 108 yX7_heard, Cond.instanceMethod yX7_heard, Cond.selects RX7 yX7_heard yX7_heard, Cond.initialized RX7, Cond.code yX7_heard cX7_heard 5 (some .int), Cond.fieldLink RX7 49 "NeighborBookModel" "ports" "[I", Cond.fieldLink RX7 91 "NeighborBookModel" "known" "I", Cond.fieldLink RX7 52 "NeighborBookModel" "left" "[I", Cond.fieldLink RX7 55 "NeighborBookModel" "frames" "[I", Cond.fieldLink RX7 46 "NeighborBookModel" "quicks" "[I", Cond.fieldLink RX7 27 "NeighborBookModel" "quick" "I", Cond.fieldLink RX7 43 "NeighborBookModel" "waits" "[I", Cond.methodLink RX7 100 yX7_parse, Cond.instanceMethod yX7_parse, Cond.selects RX7 yX7_parse yX7_parse, Cond.code yX7_parse cX7_parse 7 (some .int), Cond.fieldLink RX7 61 "NeighborBookModel" "sizes" "[I", Cond.fieldLink RX7 7 "NeighborBookModel" "typed" "[B", Cond.fieldLink RX7 58 "NeighborBookModel" "bytes" "[B"]
def wsX7_hear_r2 : List Cond := [Cond.methodLink RX7 73 yX7_isMore, Cond.static yX7_isMore, Cond.code yX7_isMore cX7_isMore 1 (some .boolean), Cond.methodLink RX7 104 yX7_isAlike, Cond.instanceMethod yX7_isAlike, Cond.selects RX7 yX7_isAlike yX7_isAlike, Cond.code yX7_isAlike cX7_isAlike 6 (some .boolean), Cond.methodLink RX7 94 yX7_forget, Cond.instanceMethod yX7_forget, Cond.selects RX7 yX7_forget yX7_forget, Cond.code yX7_forget cX7_forget 3 none, Cond.methodLink RX7 97 yX7_move, Cond.instanceMethod yX7_move, Cond.selects RX7 yX7_move yX7_move, Cond.code yX7_move cX7_move 5 none]
def wsX7_hear : List Cond := .code yX7_hear cX7_hear 2 (some .int) :: ((wsX7_hear_r1 ++ wsX7_hear_r2) ++ wsX70)
def wsX7_tick_r1 : List Cond := [Cond.fieldLink RX7 115 "NeighborBookModel" "ticks" "I", Cond.constant RX7 118 (2147483647), Cond.fieldLink RX7 91 "NeighborBookModel" "known" "I", Cond.fieldLink RX7 52 "NeighborBookModel" "left" "[I", Cond.fieldLink RX7 30 "NeighborBookModel" "up" "[Z", Cond.fieldLink RX7 43 "NeighborBookModel" "waits" "[I", Cond.fieldLink RX7 20 "NeighborBookModel" "interval" "I", Cond.fieldLink RX7 24 "NeighborBookModel" "hold" "I", Cond.constant RX7 119 (65535), Cond.fieldLink RX7 46 "NeighborBookModel" "quicks" "[I", Cond.methodLink RX7 94 yX7_forget, Cond.instanceMethod yX7_forget, Cond.selects RX7 yX7_forget yX7_forget, Cond.initialized RX7, Cond.code yX7_forget cX7_forget 3 none, Cond.methodLink RX7 97 yX7_move, Cond.instanceMethod yX7_move, Cond.selects RX7 yX7_move yX7_move, Cond.code yX7_move cX7_move 5 none, Cond.fieldLink RX7 49 "NeighborBookModel" "ports" "[I", Cond.fieldLink RX7 55 "NeighborBookModel" "frames" "[I", Cond.fieldLink RX7 61 "NeighborBookModel" "sizes" "[I", Cond.fieldLink RX7 58 "NeighborBookModel" "bytes" "[B", Cond.methodLink RX7 88 yX7_send]
def wsX7_tick_r2 : List Cond := [Cond.instanceMethod yX7_send, Cond.selects RX7 yX7_send yX7_send, Cond.code yX7_send cX7_send 5 none, Cond.fieldLink RX7 77 "NeighborBookModel" "pageSize" "I", Cond.fieldLink RX7 67 "NeighborBookModel" "pagePort" "I", Cond.fieldLink RX7 16 "NeighborBookModel" "ownSizes" "[I", Cond.fieldLink RX7 13 "NeighborBookModel" "own" "[B", Cond.fieldLink RX7 34 "NeighborBookModel" "sentFrames" "[I", Cond.methodLink RX7 84 yX7_head, Cond.instanceMethod yX7_head, Cond.selects RX7 yX7_head yX7_head, Cond.code yX7_head cX7_head 3 none, Cond.methodLink RX7 80 yX7_put, Cond.instanceMethod yX7_put, Cond.selects RX7 yX7_put yX7_put, Cond.code yX7_put cX7_put 2 none, Cond.fieldLink RX7 64 "NeighborBookModel" "page" "[B"]
def wsX7_tick : List Cond := .code yX7_tick cX7_tick 6 (some .int) :: ((wsX7_tick_r1 ++ wsX7_tick_r2) ++ wsX70)
def wsX7_about : List Cond := .code yX7_about cX7_about 5 (some .int) :: ([.fieldLink RX7 91 "NeighborBookModel" "known" "I", .fieldLink RX7 49 "NeighborBookModel" "ports" "[I", .fieldLink RX7 30 "NeighborBookModel" "up" "[Z", .fieldLink RX7 34 "NeighborBookModel" "sentFrames" "[I", .fieldLink RX7 37 "NeighborBookModel" "good" "[I", .fieldLink RX7 40 "NeighborBookModel" "bad" "[I", .fieldLink RX7 43 "NeighborBookModel" "waits" "[I", .fieldLink RX7 46 "NeighborBookModel" "quicks" "[I"] ++ wsX70)
def wsX7_count : List Cond := .code yX7_count cX7_count 2 (some .int) :: ([.fieldLink RX7 91 "NeighborBookModel" "known" "I", .fieldLink RX7 115 "NeighborBookModel" "ticks" "I", .fieldLink RX7 112 "NeighborBookModel" "fault" "I", .fieldLink RX7 70 "NeighborBookModel" "typedSize" "I", .fieldLink RX7 67 "NeighborBookModel" "pagePort" "I", .fieldLink RX7 77 "NeighborBookModel" "pageSize" "I"] ++ wsX70)
def wsX7_sent : List Cond := .code yX7_sent cX7_sent 2 (some .int) :: ([.fieldLink RX7 77 "NeighborBookModel" "pageSize" "I", .fieldLink RX7 64 "NeighborBookModel" "page" "[B"] ++ wsX70)
def wsX7_neighbor : List Cond := .code yX7_neighbor cX7_neighbor 5 (some .int) :: ([.fieldLink RX7 91 "NeighborBookModel" "known" "I", .fieldLink RX7 49 "NeighborBookModel" "ports" "[I", .fieldLink RX7 52 "NeighborBookModel" "left" "[I", .fieldLink RX7 55 "NeighborBookModel" "frames" "[I", .fieldLink RX7 61 "NeighborBookModel" "sizes" "[I"] ++ wsX70)
def wsX7_content : List Cond := .code yX7_content cX7_content 5 (some .int) :: ([.fieldLink RX7 91 "NeighborBookModel" "known" "I", .fieldLink RX7 61 "NeighborBookModel" "sizes" "[I", .fieldLink RX7 58 "NeighborBookModel" "bytes" "[B"] ++ wsX70)
def wsX7_check : List Cond := .code yX7_check cX7_check 4 (some .int) :: ([.fieldLink RX7 91 "NeighborBookModel" "known" "I", .fieldLink RX7 30 "NeighborBookModel" "up" "[Z", .fieldLink RX7 49 "NeighborBookModel" "ports" "[I", .methodLink RX7 104 yX7_isAlike, .instanceMethod yX7_isAlike, .selects RX7 yX7_isAlike yX7_isAlike, .initialized RX7, .code yX7_isAlike cX7_isAlike 6 (some .boolean), .fieldLink RX7 61 "NeighborBookModel" "sizes" "[I", .fieldLink RX7 58 "NeighborBookModel" "bytes" "[B"] ++ wsX70)
def wsJ9_max_7cf53 : List Cond := .code yJ9_max_7cf53 cJ9_max_7cf53 2 (some .int) :: ([])
def wsJ9_min_7cf53 : List Cond := .code yJ9_min_7cf53 cJ9_min_7cf53 2 (some .int) :: ([])
def wsL_law_r1 : List Cond := [Cond.classLink RL 7 RX6, Cond.instantiable RX6 12, Cond.initialized RX6, Cond.classLink RL 10 RX7, Cond.instantiable RX7 24, Cond.initialized RX7, Cond.constantLong RL 13 (4294967295), Cond.methodLink RL 9 yX6_init, Cond.instanceMethod yX6_init, Cond.code yX6_init cX6_init 2 none, Cond.methodLink RX6 1 objectInit, Cond.instanceMethod objectInit, Cond.code objectInit ⟨#[0xb1]⟩ 1 none, Cond.arrayClass .byte, Cond.fieldLink RX6 9 "NeighborBook" "typed" "[B", Cond.classLink RX6 13 RX0, Cond.instantiable RX0 2, Cond.initialized RX0, Cond.fieldLink RX6 16 "NeighborBook" "told" "LNeighborBook$Contents;", Cond.classLink RX6 20 RX4, Cond.fieldLink RX6 22 "NeighborBook" "ports" "[LNeighborBook$Port;", Cond.classLink RX6 26 RX3, Cond.instantiable RX3 2, Cond.initialized RX3]
def wsL_law_r2 : List Cond := [Cond.fieldLink RX6 29 "NeighborBook" "known" "LNeighborBook$Neighbors;", Cond.classLink RX6 33 RX1, Cond.instantiable RX1 2, Cond.initialized RX1, Cond.fieldLink RX6 36 "NeighborBook" "reader" "LNeighborBook$FrameReader;", Cond.classLink RX6 40 RX5, Cond.instantiable RX5 3, Cond.initialized RX5, Cond.fieldLink RX6 43 "NeighborBook" "latest" "LNeighborBook$SentFrame;", Cond.fieldLink RX6 47 "NeighborBook" "interval" "I", Cond.fieldLink RX6 51 "NeighborBook" "hold" "I", Cond.fieldLink RX6 54 "NeighborBook" "quick" "I", Cond.instantiable RX4 6, Cond.initialized RX4, Cond.fieldLink RX6 58 "NeighborBook" "FIRST_NAME" "[B", Cond.methodLink RX6 15 yX0_init, Cond.instanceMethod yX0_init, Cond.code yX0_init cX0_init 1 none, Cond.methodLink RX0 3 objectInit, Cond.arrayClass .int, Cond.fieldLink RX0 9 "NeighborBook$Contents" "sizes" "[I", Cond.fieldLink RX0 15 "NeighborBook$Contents" "bytes" "[B", Cond.methodLink RX0 19 yX0_clear, Cond.instanceMethod yX0_clear]
def wsL_law_r3 : List Cond := [Cond.selects RX0 yX0_clear yX0_clear, Cond.code yX0_clear cX0_clear 1 none, Cond.methodLink RX0 26 yJ7_fill_53178, Cond.static yJ7_fill_53178, Cond.initialized RJ7, Cond.code yJ7_fill_53178 cJ7_fill_53178 4 none, Cond.methodLink RX6 28 yX3_init, Cond.instanceMethod yX3_init, Cond.code yX3_init cX3_init 2 none, Cond.methodLink RX3 3 objectInit, Cond.classLink RX3 9 RX2, Cond.fieldLink RX3 11 "NeighborBook$Neighbors" "rows" "[LNeighborBook$Neighbor;", Cond.instantiable RX2 4, Cond.initialized RX2, Cond.instanceMethod yX2_init, Cond.code yX2_init cX2_init 1 none, Cond.methodLink RX2 3 objectInit, Cond.classLink RX2 9 RX0, Cond.fieldLink RX2 12 "NeighborBook$Neighbor" "contents" "LNeighborBook$Contents;", Cond.methodLink RX2 11 yX0_init, Cond.instanceMethod yX1_init, Cond.code yX1_init cX1_init 1 none, Cond.methodLink RX1 3 objectInit, Cond.classLink RX1 9 RX0]
def wsL_law_r4 : List Cond := [Cond.fieldLink RX1 12 "NeighborBook$FrameReader" "contents" "LNeighborBook$Contents;", Cond.methodLink RX1 11 yX0_init, Cond.instanceMethod yX5_init, Cond.code yX5_init cX5_init 1 none, Cond.methodLink RX5 3 objectInit, Cond.fieldLink RX5 9 "NeighborBook$SentFrame" "bytes" "[B", Cond.fieldLink RX5 15 "NeighborBook$SentFrame" "port" "I", Cond.instanceMethod yX4_init, Cond.code yX4_init cX4_init 1 none, Cond.methodLink RX4 3 objectInit, Cond.methodLink RX6 61 yX0_keep, Cond.instanceMethod yX0_keep, Cond.selects RX0 yX0_keep yX0_keep, Cond.code yX0_keep cX0_keep 5 none, Cond.methodLink RX0 39 arraycopyName, Cond.native arraycopyName, Cond.static arraycopyName, Cond.initialized "java/lang/System", Cond.methodLink RX0 32 yX0_isKept, Cond.static yX0_isKept, Cond.code yX0_isKept cX0_isKept 1 (some .boolean), Cond.static yX6_isMore, Cond.code yX6_isMore cX6_isMore 1 (some .boolean), Cond.methodLink RX0 35 yX0_startOf]
def wsL_law_r5 : List Cond := [Cond.static yX0_startOf, Cond.code yX0_startOf cX0_startOf 1 (some .int), Cond.methodLink RL 12 yX7_init, Cond.instanceMethod yX7_init, Cond.code yX7_init cX7_init 2 none, Cond.methodLink RX7 1 objectInit, Cond.fieldLink RX7 7 "NeighborBookModel" "typed" "[B", Cond.fieldLink RX7 13 "NeighborBookModel" "own" "[B", Cond.fieldLink RX7 16 "NeighborBookModel" "ownSizes" "[I", Cond.fieldLink RX7 20 "NeighborBookModel" "interval" "I", Cond.fieldLink RX7 24 "NeighborBookModel" "hold" "I", Cond.fieldLink RX7 27 "NeighborBookModel" "quick" "I", Cond.arrayClass .boolean, Cond.fieldLink RX7 30 "NeighborBookModel" "up" "[Z", Cond.fieldLink RX7 34 "NeighborBookModel" "sentFrames" "[I", Cond.fieldLink RX7 37 "NeighborBookModel" "good" "[I", Cond.fieldLink RX7 40 "NeighborBookModel" "bad" "[I", Cond.fieldLink RX7 43 "NeighborBookModel" "waits" "[I", Cond.fieldLink RX7 46 "NeighborBookModel" "quicks" "[I", Cond.fieldLink RX7 49 "NeighborBookModel" "ports" "[I", Cond.fieldLink RX7 52 "NeighborBookModel" "left" "[I", Cond.fieldLink RX7 55 "NeighborBookModel" "frames" "[I", Cond.fieldLink RX7 58 "NeighborBookModel" "bytes" "[B", Cond.fieldLink RX7 61 "NeighborBookModel" "sizes" "[I"]
def wsL_law_r6 : List Cond := [Cond.fieldLink RX7 64 "NeighborBookModel" "page" "[B", Cond.fieldLink RX7 67 "NeighborBookModel" "pagePort" "I", Cond.methodLink RL 15 yX6_type, Cond.instanceMethod yX6_type, Cond.selects RX6 yX6_type yX6_type, Cond.code yX6_type cX6_type 5 (some .int), Cond.fieldLink RX6 65 "NeighborBook" "typedCount" "I", Cond.methodLink RL 19 yX7_type, Cond.instanceMethod yX7_type, Cond.selects RX7 yX7_type yX7_type, Cond.code yX7_type cX7_type 5 (some .int), Cond.fieldLink RX7 70 "NeighborBookModel" "typedSize" "I", Cond.methodLink RL 20 yX6_tell, Cond.instanceMethod yX6_tell, Cond.selects RX6 yX6_tell yX6_tell, Cond.code yX6_tell cX6_tell 2 (some .int), Cond.methodLink RX6 68 yX6_isTellable, Cond.static yX6_isTellable, Cond.code yX6_isTellable cX6_isTellable 2 (some .boolean), Cond.methodLink RX6 174 yX6_isMore, Cond.methodLink RX6 72 yX6_tellNothing, Cond.instanceMethod yX6_tellNothing, Cond.selects RX6 yX6_tellNothing yX6_tellNothing, Cond.code yX6_tellNothing cX6_tellNothing 2 none]
def wsL_law_r7 : List Cond := [Cond.methodLink RX6 177 yX0_has, Cond.instanceMethod yX0_has, Cond.selects RX0 yX0_has yX0_has, Cond.code yX0_has cX0_has 2 (some .boolean), Cond.methodLink RX0 48 yX0_sizeOf, Cond.instanceMethod yX0_sizeOf, Cond.selects RX0 yX0_sizeOf yX0_sizeOf, Cond.code yX0_sizeOf cX0_sizeOf 2 (some .int), Cond.methodLink RX6 178 yX0_drop, Cond.instanceMethod yX0_drop, Cond.selects RX0 yX0_drop yX0_drop, Cond.code yX0_drop cX0_drop 2 none, Cond.methodLink RX0 45 yX0_has, Cond.methodLink RX6 181 yX6_hurryAll, Cond.instanceMethod yX6_hurryAll, Cond.selects RX6 yX6_hurryAll yX6_hurryAll, Cond.code yX6_hurryAll cX6_hurryAll 2 none, Cond.methodLink RX6 188 yX4_hurry, Cond.instanceMethod yX4_hurry, Cond.selects RX4 yX4_hurry yX4_hurry, Cond.code yX4_hurry cX4_hurry 1 none, Cond.fieldLink RX4 9 "NeighborBook$Port" "up" "Z", Cond.fieldLink RX4 19 "NeighborBook$Port" "waitLeft" "I", Cond.methodLink RX6 76 yX6_tellTyped]
def wsL_law_r8 : List Cond := [Cond.instanceMethod yX6_tellTyped, Cond.selects RX6 yX6_tellTyped yX6_tellTyped, Cond.code yX6_tellTyped cX6_tellTyped 2 none, Cond.methodLink RX6 184 yX0_isSame, Cond.instanceMethod yX0_isSame, Cond.selects RX0 yX0_isSame yX0_isSame, Cond.code yX0_isSame cX0_isSame 7 (some .boolean), Cond.methodLink RL 24 yX7_tell, Cond.instanceMethod yX7_tell, Cond.selects RX7 yX7_tell yX7_tell, Cond.code yX7_tell cX7_tell 4 (some .int), Cond.methodLink RX7 73 yX7_isMore, Cond.static yX7_isMore, Cond.code yX7_isMore cX7_isMore 1 (some .boolean), Cond.methodLink RL 25 yX6_set, Cond.instanceMethod yX6_set, Cond.selects RX6 yX6_set yX6_set, Cond.code yX6_set cX6_set 3 (some .int), Cond.methodLink RL 29 yX7_set, Cond.instanceMethod yX7_set, Cond.selects RX7 yX7_set yX7_set, Cond.code yX7_set cX7_set 5 (some .int), Cond.methodLink RL 30 yX6_port, Cond.instanceMethod yX6_port]
def wsL_law_r9 : List Cond := [Cond.selects RX6 yX6_port yX6_port, Cond.code yX6_port cX6_port 3 (some .int), Cond.methodLink RX6 79 yX6_isPort, Cond.static yX6_isPort, Cond.code yX6_isPort cX6_isPort 1 (some .boolean), Cond.methodLink RX6 83 yX4_isUp, Cond.instanceMethod yX4_isUp, Cond.selects RX4 yX4_isUp yX4_isUp, Cond.code yX4_isUp cX4_isUp 1 (some .boolean), Cond.methodLink RX6 87 yX4_goUp, Cond.instanceMethod yX4_goUp, Cond.selects RX4 yX4_goUp yX4_goUp, Cond.code yX4_goUp cX4_goUp 2 none, Cond.fieldLink RX4 15 "NeighborBook$Port" "quickLeft" "I", Cond.methodLink RX6 90 yX4_goDown, Cond.instanceMethod yX4_goDown, Cond.selects RX4 yX4_goDown yX4_goDown, Cond.code yX4_goDown cX4_goDown 1 none, Cond.fieldLink RX4 22 "NeighborBook$Port" "framesSent" "I", Cond.methodLink RX6 93 yX5_write, Cond.instanceMethod yX5_write, Cond.selects RX5 yX5_write yX5_write, Cond.code yX5_write cX5_write 5 none, Cond.fieldLink RX5 19 "NeighborBook$SentFrame" "length" "I"]
def wsL_law_r10 : List Cond := [Cond.methodLink RX5 22 yX0_sizeOf, Cond.methodLink RX5 28 yX5_putHead, Cond.instanceMethod yX5_putHead, Cond.selects RX5 yX5_putHead yX5_putHead, Cond.code yX5_putHead cX5_putHead 4 none, Cond.methodLink RX5 36 yX5_putByte, Cond.instanceMethod yX5_putByte, Cond.selects RX5 yX5_putByte yX5_putByte, Cond.code yX5_putByte cX5_putByte 2 none, Cond.methodLink RX5 32 yX5_putContent, Cond.instanceMethod yX5_putContent, Cond.selects RX5 yX5_putContent yX5_putContent, Cond.code yX5_putContent cX5_putContent 5 none, Cond.methodLink RX5 44 yX0_byteAt, Cond.instanceMethod yX0_byteAt, Cond.selects RX0 yX0_byteAt yX0_byteAt, Cond.code yX0_byteAt cX0_byteAt 3 (some .int), Cond.methodLink RX5 40 yX0_has, Cond.methodLink RX6 97 yX3_forgetAllAt, Cond.instanceMethod yX3_forgetAllAt, Cond.selects RX3 yX3_forgetAllAt yX3_forgetAllAt, Cond.code yX3_forgetAllAt cX3_forgetAllAt 3 none, Cond.fieldLink RX3 18 "NeighborBook$Neighbors" "size" "I", Cond.methodLink RX3 22 yX2_portOf]
def wsL_law_r11 : List Cond := [Cond.instanceMethod yX2_portOf, Cond.selects RX2 yX2_portOf yX2_portOf, Cond.code yX2_portOf cX2_portOf 1 (some .int), Cond.fieldLink RX2 18 "NeighborBook$Neighbor" "port" "I", Cond.methodLink RX3 44 yX3_forget, Cond.instanceMethod yX3_forget, Cond.selects RX3 yX3_forget yX3_forget, Cond.code yX3_forget cX3_forget 4 none, Cond.methodLink RX3 40 yX3_has, Cond.instanceMethod yX3_has, Cond.selects RX3 yX3_has yX3_has, Cond.code yX3_has cX3_has 2 (some .boolean), Cond.methodLink RL 33 yX7_port, Cond.instanceMethod yX7_port, Cond.selects RX7 yX7_port yX7_port, Cond.code yX7_port cX7_port 4 (some .int), Cond.fieldLink RX7 91 "NeighborBookModel" "known" "I", Cond.methodLink RX7 88 yX7_send, Cond.instanceMethod yX7_send, Cond.selects RX7 yX7_send yX7_send, Cond.code yX7_send cX7_send 5 none, Cond.fieldLink RX7 77 "NeighborBookModel" "pageSize" "I", Cond.methodLink RX7 84 yX7_head, Cond.instanceMethod yX7_head]
def wsL_law_r12 : List Cond := [Cond.selects RX7 yX7_head yX7_head, Cond.code yX7_head cX7_head 3 none, Cond.methodLink RX7 80 yX7_put, Cond.instanceMethod yX7_put, Cond.selects RX7 yX7_put yX7_put, Cond.code yX7_put cX7_put 2 none, Cond.methodLink RX7 94 yX7_forget, Cond.instanceMethod yX7_forget, Cond.selects RX7 yX7_forget yX7_forget, Cond.code yX7_forget cX7_forget 3 none, Cond.methodLink RX7 97 yX7_move, Cond.instanceMethod yX7_move, Cond.selects RX7 yX7_move yX7_move, Cond.code yX7_move cX7_move 5 none, Cond.methodLink RL 34 yX6_hear, Cond.instanceMethod yX6_hear, Cond.selects RX6 yX6_hear yX6_hear, Cond.code yX6_hear cX6_hear 3 (some .int), Cond.fieldLink RX6 112 "NeighborBook" "latestFault" "I", Cond.methodLink RX6 100 yX1_read, Cond.instanceMethod yX1_read, Cond.selects RX1 yX1_read yX1_read, Cond.code yX1_read cX1_read 10 (some .int), Cond.methodLink RX1 22 yX0_clear]
def wsL_law_r13 : List Cond := [Cond.methodLink RX1 25 yX1_pairAt, Cond.static yX1_pairAt, Cond.code yX1_pairAt cX1_pairAt 2 (some .int), Cond.methodLink RX1 29 yX1_faultOfPart, Cond.instanceMethod yX1_faultOfPart, Cond.selects RX1 yX1_faultOfPart yX1_faultOfPart, Cond.code yX1_faultOfPart cX1_faultOfPart 5 (some .int), Cond.methodLink RX1 37 yX1_isOutOfOrder, Cond.static yX1_isOutOfOrder, Cond.code yX1_isOutOfOrder cX1_isOutOfOrder 2 (some .boolean), Cond.methodLink RX1 41 yX1_isWrongSize, Cond.static yX1_isWrongSize, Cond.code yX1_isWrongSize cX1_isWrongSize 2 (some .boolean), Cond.methodLink RX1 48 yX0_has, Cond.methodLink RX1 33 yX1_takePart, Cond.instanceMethod yX1_takePart, Cond.selects RX1 yX1_takePart yX1_takePart, Cond.code yX1_takePart cX1_takePart 5 none, Cond.fieldLink RX1 18 "NeighborBook$FrameReader" "held" "I", Cond.methodLink RX1 51 yX0_keep, Cond.methodLink RX6 104 yX6_learn, Cond.instanceMethod yX6_learn, Cond.selects RX6 yX6_learn yX6_learn, Cond.code yX6_learn cX6_learn 4 (some .int)]
def wsL_law_r14 : List Cond := [Cond.methodLink RX6 191 yX1_contents, Cond.instanceMethod yX1_contents, Cond.selects RX1 yX1_contents yX1_contents, Cond.code yX1_contents cX1_contents 1 (some (.object "NeighborBook$Contents")), Cond.methodLink RX6 170 yX3_find, Cond.instanceMethod yX3_find, Cond.selects RX3 yX3_find yX3_find, Cond.code yX3_find cX3_find 4 (some .int), Cond.methodLink RX3 26 yX2_contents, Cond.instanceMethod yX2_contents, Cond.selects RX2 yX2_contents yX2_contents, Cond.code yX2_contents cX2_contents 1 (some (.object "NeighborBook$Contents")), Cond.methodLink RX3 30 yX0_isSameStation, Cond.instanceMethod yX0_isSameStation, Cond.selects RX0 yX0_isSameStation yX0_isSameStation, Cond.code yX0_isSameStation cX0_isSameStation 2 (some .boolean), Cond.methodLink RX0 51 yX0_isSame, Cond.methodLink RX6 192 yX1_held, Cond.instanceMethod yX1_held, Cond.selects RX1 yX1_held yX1_held, Cond.code yX1_held cX1_held 1 (some .int), Cond.methodLink RX6 195 yX3_forget, Cond.methodLink RX6 198 yX3_add, Cond.instanceMethod yX3_add]
def wsL_law_r15 : List Cond := [Cond.selects RX3 yX3_add yX3_add, Cond.code yX3_add cX3_add 3 (some .int), Cond.methodLink RX3 36 yX2_begin, Cond.instanceMethod yX2_begin, Cond.selects RX2 yX2_begin yX2_begin, Cond.code yX2_begin cX2_begin 2 none, Cond.fieldLink RX2 22 "NeighborBook$Neighbor" "frames" "I", Cond.methodLink RX6 201 yX4_greet, Cond.instanceMethod yX4_greet, Cond.selects RX4 yX4_greet yX4_greet, Cond.code yX4_greet cX4_greet 2 none, Cond.methodLink RX4 25 Lib.Math.max.name, Cond.static Lib.Math.max.name, Cond.initialized "java/lang/Math", Cond.code Lib.Math.max.name Lib.Math.max.code 2 (some .int), Cond.methodLink RX6 153 yX3_at, Cond.instanceMethod yX3_at, Cond.selects RX3 yX3_at yX3_at, Cond.code yX3_at cX3_at 2 (some (.object "NeighborBook$Neighbor")), Cond.methodLink RX6 204 yX2_renew, Cond.instanceMethod yX2_renew, Cond.selects RX2 yX2_renew yX2_renew, Cond.code yX2_renew cX2_renew 4 (some (.object "NeighborBook$Contents")), Cond.fieldLink RX2 25 "NeighborBook$Neighbor" "ticksLeft" "I"]
def wsL_law_r16 : List Cond := [Cond.methodLink RX6 208 yX1_useNext, Cond.instanceMethod yX1_useNext, Cond.selects RX1 yX1_useNext yX1_useNext, Cond.code yX1_useNext cX1_useNext 2 none, Cond.methodLink RX6 108 yX4_noteHeard, Cond.instanceMethod yX4_noteHeard, Cond.selects RX4 yX4_noteHeard yX4_noteHeard, Cond.code yX4_noteHeard cX4_noteHeard 2 none, Cond.fieldLink RX4 31 "NeighborBook$Port" "heardWell" "I", Cond.fieldLink RX4 34 "NeighborBook$Port" "heardFaulty" "I", Cond.methodLink RL 37 yX7_hear, Cond.instanceMethod yX7_hear, Cond.selects RX7 yX7_hear yX7_hear, Cond.code yX7_hear cX7_hear 2 (some .int), Cond.fieldLink RX7 112 "NeighborBookModel" "fault" "I", Cond.methodLink RX7 108 yX7_heard, Cond.instanceMethod yX7_heard, Cond.selects RX7 yX7_heard yX7_heard, Cond.code yX7_heard cX7_heard 5 (some .int), Cond.methodLink RX7 100 yX7_parse, Cond.instanceMethod yX7_parse, Cond.selects RX7 yX7_parse yX7_parse, Cond.code yX7_parse cX7_parse 7 (some .int), Cond.methodLink RX7 104 yX7_isAlike]
def wsL_law_r17 : List Cond := [Cond.instanceMethod yX7_isAlike, Cond.selects RX7 yX7_isAlike yX7_isAlike, Cond.code yX7_isAlike cX7_isAlike 6 (some .boolean), Cond.methodLink RL 38 yX6_tick, Cond.instanceMethod yX6_tick, Cond.selects RX6 yX6_tick yX6_tick, Cond.code yX6_tick cX6_tick 6 (some .int), Cond.fieldLink RX6 115 "NeighborBook" "ticks" "I", Cond.constant RX6 118 (2147483647), Cond.constant RX6 124 (65535), Cond.methodLink RX6 125 Lib.Math.min.name, Cond.static Lib.Math.min.name, Cond.code Lib.Math.min.name Lib.Math.min.code 2 (some .int), Cond.methodLink RX6 119 yX3_passTick, Cond.instanceMethod yX3_passTick, Cond.selects RX3 yX3_passTick yX3_passTick, Cond.code yX3_passTick cX3_passTick 2 none, Cond.methodLink RX3 47 yX2_passTick, Cond.instanceMethod yX2_passTick, Cond.selects RX2 yX2_passTick yX2_passTick, Cond.code yX2_passTick cX2_passTick 1 (some .boolean), Cond.methodLink RX6 122 yX4_passTick, Cond.instanceMethod yX4_passTick, Cond.selects RX4 yX4_passTick yX4_passTick]
def wsL_law_r18 : List Cond := [Cond.code yX4_passTick cX4_passTick 2 (some .boolean), Cond.methodLink RL 41 yX7_tick, Cond.instanceMethod yX7_tick, Cond.selects RX7 yX7_tick yX7_tick, Cond.code yX7_tick cX7_tick 6 (some .int), Cond.fieldLink RX7 115 "NeighborBookModel" "ticks" "I", Cond.constant RX7 118 (2147483647), Cond.constant RX7 119 (65535), Cond.methodLink RL 42 yX6_about, Cond.instanceMethod yX6_about, Cond.selects RX6 yX6_about yX6_about, Cond.code yX6_about cX6_about 3 (some .int), Cond.methodLink RX6 131 yX3_sizeAt, Cond.instanceMethod yX3_sizeAt, Cond.selects RX3 yX3_sizeAt yX3_sizeAt, Cond.code yX3_sizeAt cX3_sizeAt 4 (some .int), Cond.methodLink RX6 134 yX4_tellAbout, Cond.instanceMethod yX4_tellAbout, Cond.selects RX4 yX4_tellAbout yX4_tellAbout, Cond.code yX4_tellAbout cX4_tellAbout 2 (some .int), Cond.methodLink RL 45 yX7_about, Cond.instanceMethod yX7_about, Cond.selects RX7 yX7_about yX7_about, Cond.code yX7_about cX7_about 5 (some .int)]
def wsL_law_r19 : List Cond := [Cond.methodLink RL 46 yX6_count, Cond.instanceMethod yX6_count, Cond.selects RX6 yX6_count yX6_count, Cond.code yX6_count cX6_count 2 (some .int), Cond.methodLink RX6 137 yX3_size, Cond.instanceMethod yX3_size, Cond.selects RX3 yX3_size yX3_size, Cond.code yX3_size cX3_size 1 (some .int), Cond.methodLink RX6 141 yX5_portOf, Cond.instanceMethod yX5_portOf, Cond.selects RX5 yX5_portOf yX5_portOf, Cond.code yX5_portOf cX5_portOf 1 (some .int), Cond.methodLink RX6 144 yX5_length, Cond.instanceMethod yX5_length, Cond.selects RX5 yX5_length yX5_length, Cond.code yX5_length cX5_length 1 (some .int), Cond.methodLink RL 49 yX7_count, Cond.instanceMethod yX7_count, Cond.selects RX7 yX7_count yX7_count, Cond.code yX7_count cX7_count 2 (some .int), Cond.methodLink RL 50 yX6_sent, Cond.instanceMethod yX6_sent, Cond.selects RX6 yX6_sent yX6_sent, Cond.code yX6_sent cX6_sent 2 (some .int)]
def wsL_law_r20 : List Cond := [Cond.methodLink RX6 147 yX5_byteAt, Cond.instanceMethod yX5_byteAt, Cond.selects RX5 yX5_byteAt yX5_byteAt, Cond.code yX5_byteAt cX5_byteAt 2 (some .int), Cond.methodLink RL 53 yX7_sent, Cond.instanceMethod yX7_sent, Cond.selects RX7 yX7_sent yX7_sent, Cond.code yX7_sent cX7_sent 2 (some .int), Cond.methodLink RL 54 yX6_neighbor, Cond.instanceMethod yX6_neighbor, Cond.selects RX6 yX6_neighbor yX6_neighbor, Cond.code yX6_neighbor cX6_neighbor 3 (some .int), Cond.methodLink RX6 150 yX3_has, Cond.methodLink RX6 157 yX2_tellAbout, Cond.instanceMethod yX2_tellAbout, Cond.selects RX2 yX2_tellAbout yX2_tellAbout, Cond.code yX2_tellAbout cX2_tellAbout 2 (some .int), Cond.methodLink RX2 28 yX0_typeBits, Cond.instanceMethod yX0_typeBits, Cond.selects RX0 yX0_typeBits yX0_typeBits, Cond.code yX0_typeBits cX0_typeBits 3 (some .int), Cond.methodLink RL 57 yX7_neighbor, Cond.instanceMethod yX7_neighbor, Cond.selects RX7 yX7_neighbor yX7_neighbor]
def wsL_law_r21 : List Cond := [Cond.code yX7_neighbor cX7_neighbor 5 (some .int), Cond.methodLink RL 58 yX6_content, Cond.instanceMethod yX6_content, Cond.selects RX6 yX6_content yX6_content, Cond.code yX6_content cX6_content 5 (some .int), Cond.methodLink RX6 160 yX2_contents, Cond.methodLink RX6 164 yX0_sizeOf, Cond.methodLink RX6 167 yX0_byteAt, Cond.methodLink RL 62 yX7_content, Cond.instanceMethod yX7_content, Cond.selects RX7 yX7_content yX7_content, Cond.code yX7_content cX7_content 5 (some .int), Cond.methodLink RL 63 yX6_check, Cond.instanceMethod yX6_check, Cond.selects RX6 yX6_check yX6_check, Cond.code yX6_check cX6_check 3 (some .int), Cond.methodLink RX6 169 yX2_portOf, Cond.methodLink RL 67 yX7_check, Cond.instanceMethod yX7_check, Cond.selects RX7 yX7_check yX7_check, Cond.code yX7_check cX7_check 4 (some .int)]
def wsL_law : List Cond := (wsL_law_r1 ++ (wsL_law_r2 ++ (wsL_law_r3 ++ (wsL_law_r4 ++ (wsL_law_r5 ++ (wsL_law_r6 ++ (wsL_law_r7 ++ (wsL_law_r8 ++ (wsL_law_r9 ++ (wsL_law_r10 ++ (wsL_law_r11 ++ (wsL_law_r12 ++ (wsL_law_r13 ++ (wsL_law_r14 ++ (wsL_law_r15 ++ (wsL_law_r16 ++ (wsL_law_r17 ++ (wsL_law_r18 ++ (wsL_law_r19 ++ (wsL_law_r20 ++ wsL_law_r21)))))))))))))))))))) ++ wsX60 ++ wsX70 ++ wsX00 ++ wsX30 ++ wsX10 ++ wsX50 ++ wsX40 ++ wsX20 ++ ([] : List Cond)
set_option maxRecDepth 20000 in
theorem wsL_law_r1_in : ∀ w ∈ wsL_law_r1, w ∈ lw_tbl := fun w h => (goodIn_p wsL_law_r1 [33, 36] (by decide +kernel) (by decide +kernel) w h).1
set_option maxRecDepth 20000 in
theorem wsL_law_r2_in : ∀ w ∈ wsL_law_r2, w ∈ lw_tbl := fun w h => (goodIn_p wsL_law_r2 [41] (by decide +kernel) (by decide +kernel) w h).1
set_option maxRecDepth 20000 in
theorem wsL_law_r3_in : ∀ w ∈ wsL_law_r3, w ∈ lw_tbl := fun w h => (goodIn_p wsL_law_r3 [46, 49, 65, 72, 100] (by decide +kernel) (by decide +kernel) w h).1
set_option maxRecDepth 20000 in
theorem wsL_law_r4_in : ∀ w ∈ wsL_law_r4, w ∈ lw_tbl := fun w h => (goodIn_p wsL_law_r4 [115, 130, 156, 159, 162] (by decide +kernel) (by decide +kernel) w h).1
set_option maxRecDepth 20000 in
theorem wsL_law_r5_in : ∀ w ∈ wsL_law_r5, w ∈ lw_tbl := fun w h => (goodIn_p wsL_law_r5 [165, 484] (by decide +kernel) (by decide +kernel) w h).1
set_option maxRecDepth 20000 in
theorem wsL_law_r6_in : ∀ w ∈ wsL_law_r6, w ∈ lw_tbl := fun w h => (goodIn_p wsL_law_r6 [209, 563, 213, 216, 221] (by decide +kernel) (by decide +kernel) w h).1
set_option maxRecDepth 20000 in
theorem wsL_law_r7_in : ∀ w ∈ wsL_law_r7, w ∈ lw_tbl := fun w h => (goodIn_p wsL_law_r7 [225, 229, 233, 238, 242] (by decide +kernel) (by decide +kernel) w h).1
set_option maxRecDepth 20000 in
theorem wsL_law_r8_in : ∀ w ∈ wsL_law_r8, w ∈ lw_tbl := fun w h => (goodIn_p wsL_law_r8 [246, 250, 567, 570, 254, 574] (by decide +kernel) (by decide +kernel) w h).1
set_option maxRecDepth 20000 in
theorem wsL_law_r9_in : ∀ w ∈ wsL_law_r9, w ∈ lw_tbl := fun w h => (goodIn_p wsL_law_r9 [258, 261, 265, 269, 273, 277] (by decide +kernel) (by decide +kernel) w h).1
set_option maxRecDepth 20000 in
theorem wsL_law_r10_in : ∀ w ∈ wsL_law_r10, w ∈ lw_tbl := fun w h => (goodIn_p wsL_law_r10 [282, 286, 290, 294, 299] (by decide +kernel) (by decide +kernel) w h).1
set_option maxRecDepth 20000 in
theorem wsL_law_r11_in : ∀ w ∈ wsL_law_r11, w ∈ lw_tbl := fun w h => (goodIn_p wsL_law_r11 [303, 307, 311, 578, 582] (by decide +kernel) (by decide +kernel) w h).1
set_option maxRecDepth 20000 in
theorem wsL_law_r12_in : ∀ w ∈ wsL_law_r12, w ∈ lw_tbl := fun w h => (goodIn_p wsL_law_r12 [586, 590, 594, 598, 315, 319] (by decide +kernel) (by decide +kernel) w h).1
set_option maxRecDepth 20000 in
theorem wsL_law_r13_in : ∀ w ∈ wsL_law_r13, w ∈ lw_tbl := fun w h => (goodIn_p wsL_law_r13 [323, 327, 330, 333, 339, 344] (by decide +kernel) (by decide +kernel) w h).1
set_option maxRecDepth 20000 in
theorem wsL_law_r14_in : ∀ w ∈ wsL_law_r14, w ∈ lw_tbl := fun w h => (goodIn_p wsL_law_r14 [348, 352, 356, 360, 365] (by decide +kernel) (by decide +kernel) w h).1
set_option maxRecDepth 20000 in
theorem wsL_law_r15_in : ∀ w ∈ wsL_law_r15, w ∈ lw_tbl := fun w h => (goodIn_p wsL_law_r15 [370, 374, 378, 381, 385, 389] (by decide +kernel) (by decide +kernel) w h).1
set_option maxRecDepth 20000 in
theorem wsL_law_r16_in : ∀ w ∈ wsL_law_r16, w ∈ lw_tbl := fun w h => (goodIn_p wsL_law_r16 [393, 397, 602, 606, 610] (by decide +kernel) (by decide +kernel) w h).1
set_option maxRecDepth 20000 in
theorem wsL_law_r17_in : ∀ w ∈ wsL_law_r17, w ∈ lw_tbl := fun w h => (goodIn_p wsL_law_r17 [614, 401, 418, 406, 410] (by decide +kernel) (by decide +kernel) w h).1
set_option maxRecDepth 20000 in
theorem wsL_law_r18_in : ∀ w ∈ wsL_law_r18, w ∈ lw_tbl := fun w h => (goodIn_p wsL_law_r18 [414, 618, 422, 426, 430, 624] (by decide +kernel) (by decide +kernel) w h).1
set_option maxRecDepth 20000 in
theorem wsL_law_r19_in : ∀ w ∈ wsL_law_r19, w ∈ lw_tbl := fun w h => (goodIn_p wsL_law_r19 [434, 438, 442, 446, 628, 450] (by decide +kernel) (by decide +kernel) w h).1
set_option maxRecDepth 20000 in
theorem wsL_law_r20_in : ∀ w ∈ wsL_law_r20, w ∈ lw_tbl := fun w h => (goodIn_p wsL_law_r20 [454, 632, 458, 463, 467] (by decide +kernel) (by decide +kernel) w h).1
set_option maxRecDepth 20000 in
theorem wsL_law_r21_in : ∀ w ∈ wsL_law_r21, w ∈ lw_tbl := fun w h => (goodIn_p wsL_law_r21 [636, 471, 640, 478, 644] (by decide +kernel) (by decide +kernel) w h).1
set_option maxRecDepth 20000 in
theorem wsX60_in : ∀ w ∈ wsX60, w ∈ lw_tbl := by decide +kernel
set_option maxRecDepth 20000 in
theorem wsX70_in : ∀ w ∈ wsX70, w ∈ lw_tbl := by decide +kernel
set_option maxRecDepth 20000 in
theorem wsX00_in : ∀ w ∈ wsX00, w ∈ lw_tbl := by decide +kernel
set_option maxRecDepth 20000 in
theorem wsX30_in : ∀ w ∈ wsX30, w ∈ lw_tbl := by decide +kernel
set_option maxRecDepth 20000 in
theorem wsX10_in : ∀ w ∈ wsX10, w ∈ lw_tbl := by decide +kernel
set_option maxRecDepth 20000 in
theorem wsX50_in : ∀ w ∈ wsX50, w ∈ lw_tbl := by decide +kernel
set_option maxRecDepth 20000 in
theorem wsX40_in : ∀ w ∈ wsX40, w ∈ lw_tbl := by decide +kernel
set_option maxRecDepth 20000 in
theorem wsX20_in : ∀ w ∈ wsX20, w ∈ lw_tbl := by decide +kernel
theorem wsL_law_in : ∀ w ∈ wsL_law, w ∈ lw_tbl := List.forall_mem_append.mpr ⟨List.forall_mem_append.mpr ⟨List.forall_mem_append.mpr ⟨List.forall_mem_append.mpr ⟨List.forall_mem_append.mpr ⟨List.forall_mem_append.mpr ⟨List.forall_mem_append.mpr ⟨List.forall_mem_append.mpr ⟨List.forall_mem_append.mpr ⟨List.forall_mem_append.mpr ⟨wsL_law_r1_in, List.forall_mem_append.mpr ⟨wsL_law_r2_in, List.forall_mem_append.mpr ⟨wsL_law_r3_in, List.forall_mem_append.mpr ⟨wsL_law_r4_in, List.forall_mem_append.mpr ⟨wsL_law_r5_in, List.forall_mem_append.mpr ⟨wsL_law_r6_in, List.forall_mem_append.mpr ⟨wsL_law_r7_in, List.forall_mem_append.mpr ⟨wsL_law_r8_in, List.forall_mem_append.mpr ⟨wsL_law_r9_in, List.forall_mem_append.mpr ⟨wsL_law_r10_in, List.forall_mem_append.mpr ⟨wsL_law_r11_in, List.forall_mem_append.mpr ⟨wsL_law_r12_in, List.forall_mem_append.mpr ⟨wsL_law_r13_in, List.forall_mem_append.mpr ⟨wsL_law_r14_in, List.forall_mem_append.mpr ⟨wsL_law_r15_in, List.forall_mem_append.mpr ⟨wsL_law_r16_in, List.forall_mem_append.mpr ⟨wsL_law_r17_in, List.forall_mem_append.mpr ⟨wsL_law_r18_in, List.forall_mem_append.mpr ⟨wsL_law_r19_in, List.forall_mem_append.mpr ⟨wsL_law_r20_in, wsL_law_r21_in⟩⟩⟩⟩⟩⟩⟩⟩⟩⟩⟩⟩⟩⟩⟩⟩⟩⟩⟩⟩, wsX60_in⟩, wsX70_in⟩, wsX00_in⟩, wsX30_in⟩, wsX10_in⟩, wsX50_in⟩, wsX40_in⟩, wsX20_in⟩, fun _ h => absurd h List.not_mem_nil⟩
theorem inlX0 : ∀ w ∈ wsX00, w ∈ wsL_law := fun _ h => List.mem_append_left _ (List.mem_append_left _ (List.mem_append_left _ (List.mem_append_left _ (List.mem_append_left _ (List.mem_append_left _ (List.mem_append_right _ h))))))
theorem inX0 : ∀ w ∈ wsX00, w ∈ lw_tbl := fun w h => wsL_law_in w (inlX0 w h)
theorem inlX1 : ∀ w ∈ wsX10, w ∈ wsL_law := fun _ h => List.mem_append_left _ (List.mem_append_left _ (List.mem_append_left _ (List.mem_append_left _ (List.mem_append_right _ h))))
theorem inX1 : ∀ w ∈ wsX10, w ∈ lw_tbl := fun w h => wsL_law_in w (inlX1 w h)
theorem inlX2 : ∀ w ∈ wsX20, w ∈ wsL_law := fun _ h => List.mem_append_left _ (List.mem_append_right _ h)
theorem inX2 : ∀ w ∈ wsX20, w ∈ lw_tbl := fun w h => wsL_law_in w (inlX2 w h)
theorem inlX3 : ∀ w ∈ wsX30, w ∈ wsL_law := fun _ h => List.mem_append_left _ (List.mem_append_left _ (List.mem_append_left _ (List.mem_append_left _ (List.mem_append_left _ (List.mem_append_right _ h)))))
theorem inX3 : ∀ w ∈ wsX30, w ∈ lw_tbl := fun w h => wsL_law_in w (inlX3 w h)
theorem inlX4 : ∀ w ∈ wsX40, w ∈ wsL_law := fun _ h => List.mem_append_left _ (List.mem_append_left _ (List.mem_append_right _ h))
theorem inX4 : ∀ w ∈ wsX40, w ∈ lw_tbl := fun w h => wsL_law_in w (inlX4 w h)
theorem inlX5 : ∀ w ∈ wsX50, w ∈ wsL_law := fun _ h => List.mem_append_left _ (List.mem_append_left _ (List.mem_append_left _ (List.mem_append_right _ h)))
theorem inX5 : ∀ w ∈ wsX50, w ∈ lw_tbl := fun w h => wsL_law_in w (inlX5 w h)
theorem inlX6 : ∀ w ∈ wsX60, w ∈ wsL_law := fun _ h => List.mem_append_left _ (List.mem_append_left _ (List.mem_append_left _ (List.mem_append_left _ (List.mem_append_left _ (List.mem_append_left _ (List.mem_append_left _ (List.mem_append_left _ (List.mem_append_right _ h))))))))
theorem inX6 : ∀ w ∈ wsX60, w ∈ lw_tbl := fun w h => wsL_law_in w (inlX6 w h)
theorem inlX7 : ∀ w ∈ wsX70, w ∈ wsL_law := fun _ h => List.mem_append_left _ (List.mem_append_left _ (List.mem_append_left _ (List.mem_append_left _ (List.mem_append_left _ (List.mem_append_left _ (List.mem_append_left _ (List.mem_append_right _ h)))))))
theorem inX7 : ∀ w ∈ wsX70, w ∈ lw_tbl := fun w h => wsL_law_in w (inlX7 w h)
theorem inJ9 : ∀ w ∈ wsJ90, w ∈ lw_tbl := by decide +kernel
theorem inJ10 : ∀ w ∈ wsJ100, w ∈ lw_tbl := by decide +kernel
theorem inJ7 : ∀ w ∈ wsJ70, w ∈ lw_tbl := by decide +kernel
end
section
set_option maxRecDepth 20000 in
theorem ggX0_init_X0_clear : GoodIn wsX0_init wsX0_clear := goodIn_r _ [12, 5, 13, 14, 15, 16, 17, 18] (by decide +kernel) (by decide +kernel)
set_option maxRecDepth 20000 in
theorem gX0_init_X0_clear : GoodIn wsX0_init (wsV RX0 19 RX0 yX0_clear wsX0_clear) := goodIn_app (goodIn_of _ (by decide +kernel)) ggX0_init_X0_clear
theorem dX0_init_0 : decode cX0_init 0 = .ok (.aload_n 0, 1) := by decide +kernel
theorem dX0_init_1 : decode cX0_init 1 = .ok (.invokespecial 3, 3) := by decide +kernel
theorem dX0_init_4 : decode cX0_init 4 = .ok (.aload_n 0, 1) := by decide +kernel
theorem dX0_init_5 : decode cX0_init 5 = .ok (.bipush 9, 2) := by decide +kernel
theorem dX0_init_7 : decode cX0_init 7 = .ok (.newarray .int, 2) := by decide +kernel
theorem dX0_init_9 : decode cX0_init 9 = .ok (.putfield 9, 3) := by decide +kernel
theorem dX0_init_12 : decode cX0_init 12 = .ok (.aload_n 0, 1) := by decide +kernel
theorem dX0_init_13 : decode cX0_init 13 = .ok (.sipush 420, 3) := by decide +kernel
theorem dX0_init_16 : decode cX0_init 16 = .ok (.newarray .byte, 2) := by decide +kernel
theorem dX0_init_18 : decode cX0_init 18 = .ok (.putfield 15, 3) := by decide +kernel
theorem dX0_init_21 : decode cX0_init 21 = .ok (.aload_n 0, 1) := by decide +kernel
theorem dX0_init_22 : decode cX0_init 22 = .ok (.invokevirtual 19, 3) := by decide +kernel
theorem dX0_init_25 : decode cX0_init 25 = .ok (.return_, 1) := by decide +kernel
set_option maxRecDepth 20000 in
theorem ggX0_isKept_X6_isMore : GoodIn wsX0_isKept wsX6_isMore := goodIn_r _ [3] (by decide +kernel) (by decide +kernel)
set_option maxRecDepth 20000 in
theorem gX0_isKept_X6_isMore_n22 : GoodIn wsX0_isKept (wsX6_isMore) := ggX0_isKept_X6_isMore
theorem dX0_isKept_0 : decode cX0_isKept 0 = .ok (.iload_n 0, 1) := by decide +kernel
theorem dX0_isKept_1 : decode cX0_isKept 1 = .ok (.iconst 1, 1) := by decide +kernel
theorem dX0_isKept_2 : decode cX0_isKept 2 = .ok (.if_icmp .eq 15, 3) := by decide +kernel
theorem dX0_isKept_5 : decode cX0_isKept 5 = .ok (.iload_n 0, 1) := by decide +kernel
theorem dX0_isKept_6 : decode cX0_isKept 6 = .ok (.iconst 2, 1) := by decide +kernel
theorem dX0_isKept_7 : decode cX0_isKept 7 = .ok (.if_icmp .eq 10, 3) := by decide +kernel
theorem dX0_isKept_10 : decode cX0_isKept 10 = .ok (.iload_n 0, 1) := by decide +kernel
theorem dX0_isKept_11 : decode cX0_isKept 11 = .ok (.invokestatic 22, 3) := by decide +kernel
theorem dX0_isKept_14 : decode cX0_isKept 14 = .ok (.ifCond .eq 7, 3) := by decide +kernel
theorem dX0_isKept_17 : decode cX0_isKept 17 = .ok (.iconst 1, 1) := by decide +kernel
theorem dX0_isKept_18 : decode cX0_isKept 18 = .ok (.goto 4, 3) := by decide +kernel
theorem dX0_isKept_21 : decode cX0_isKept 21 = .ok (.iconst 0, 1) := by decide +kernel
theorem dX0_isKept_22 : decode cX0_isKept 22 = .ok (.ireturn, 1) := by decide +kernel
theorem dX0_startOf_0 : decode cX0_startOf 0 = .ok (.iload_n 0, 1) := by decide +kernel
theorem dX0_startOf_1 : decode cX0_startOf 1 = .ok (.iconst 3, 1) := by decide +kernel
theorem dX0_startOf_2 : decode cX0_startOf 2 = .ok (.if_icmp .ge 9, 3) := by decide +kernel
theorem dX0_startOf_5 : decode cX0_startOf 5 = .ok (.iload_n 0, 1) := by decide +kernel
theorem dX0_startOf_6 : decode cX0_startOf 6 = .ok (.iconst 1, 1) := by decide +kernel
theorem dX0_startOf_7 : decode cX0_startOf 7 = .ok (.isub, 1) := by decide +kernel
theorem dX0_startOf_8 : decode cX0_startOf 8 = .ok (.goto 6, 3) := by decide +kernel
theorem dX0_startOf_11 : decode cX0_startOf 11 = .ok (.iload_n 0, 1) := by decide +kernel
theorem dX0_startOf_12 : decode cX0_startOf 12 = .ok (.iconst 2, 1) := by decide +kernel
theorem dX0_startOf_13 : decode cX0_startOf 13 = .ok (.isub, 1) := by decide +kernel
theorem dX0_startOf_14 : decode cX0_startOf 14 = .ok (.bipush 60, 2) := by decide +kernel
theorem dX0_startOf_16 : decode cX0_startOf 16 = .ok (.imul, 1) := by decide +kernel
theorem dX0_startOf_17 : decode cX0_startOf 17 = .ok (.ireturn, 1) := by decide +kernel
set_option maxRecDepth 20000 in
theorem ggX0_clear_J7_fill_53178 : GoodIn wsX0_clear wsJ7_fill_53178 := goodIn_r _ [5] (by decide +kernel) (by decide +kernel)
set_option maxRecDepth 20000 in
theorem gX0_clear_J7_fill_53178 : GoodIn wsX0_clear (va_wsS RX0 26 yJ7_fill_53178 wsJ7_fill_53178) := goodIn_app (goodIn_of _ (by decide +kernel)) ggX0_clear_J7_fill_53178
theorem dX0_clear_0 : decode cX0_clear 0 = .ok (.aload_n 0, 1) := by decide +kernel
theorem dX0_clear_1 : decode cX0_clear 1 = .ok (.getfield 9, 3) := by decide +kernel
theorem dX0_clear_4 : decode cX0_clear 4 = .ok (.iconst (-1), 1) := by decide +kernel
theorem dX0_clear_5 : decode cX0_clear 5 = .ok (.invokestatic 26, 3) := by decide +kernel
theorem dX0_clear_8 : decode cX0_clear 8 = .ok (.return_, 1) := by decide +kernel
set_option maxRecDepth 20000 in
theorem ggX0_keep_X0_isKept : GoodIn wsX0_keep wsX0_isKept := goodIn_r _ [10, 11, 12, 13] (by decide +kernel) (by decide +kernel)
set_option maxRecDepth 20000 in
theorem gX0_keep_X0_isKept : GoodIn wsX0_keep (va_wsS RX0 32 yX0_isKept wsX0_isKept) := goodIn_app (goodIn_of _ (by decide +kernel)) ggX0_keep_X0_isKept
set_option maxRecDepth 20000 in
theorem ggX0_keep_X0_startOf : GoodIn wsX0_keep wsX0_startOf := goodIn_r _ [16] (by decide +kernel) (by decide +kernel)
set_option maxRecDepth 20000 in
theorem gX0_keep_X0_startOf : GoodIn wsX0_keep (va_wsS RX0 35 yX0_startOf wsX0_startOf) := goodIn_app (goodIn_of _ (by decide +kernel)) ggX0_keep_X0_startOf
theorem dX0_keep_0 : decode cX0_keep 0 = .ok (.iload_n 1, 1) := by decide +kernel
theorem dX0_keep_1 : decode cX0_keep 1 = .ok (.invokestatic 32, 3) := by decide +kernel
theorem dX0_keep_4 : decode cX0_keep 4 = .ok (.ifCond .eq 51, 3) := by decide +kernel
theorem dX0_keep_7 : decode cX0_keep 7 = .ok (.iload 4, 2) := by decide +kernel
theorem dX0_keep_9 : decode cX0_keep 9 = .ok (.ifCond .lt 46, 3) := by decide +kernel
theorem dX0_keep_12 : decode cX0_keep 12 = .ok (.iload 4, 2) := by decide +kernel
theorem dX0_keep_14 : decode cX0_keep 14 = .ok (.bipush 60, 2) := by decide +kernel
theorem dX0_keep_16 : decode cX0_keep 16 = .ok (.if_icmp .gt 39, 3) := by decide +kernel
theorem dX0_keep_19 : decode cX0_keep 19 = .ok (.iload_n 3, 1) := by decide +kernel
theorem dX0_keep_20 : decode cX0_keep 20 = .ok (.ifCond .lt 35, 3) := by decide +kernel
theorem dX0_keep_23 : decode cX0_keep 23 = .ok (.iload_n 3, 1) := by decide +kernel
theorem dX0_keep_24 : decode cX0_keep 24 = .ok (.aload_n 2, 1) := by decide +kernel
theorem dX0_keep_25 : decode cX0_keep 25 = .ok (.arraylength, 1) := by decide +kernel
theorem dX0_keep_26 : decode cX0_keep 26 = .ok (.iload 4, 2) := by decide +kernel
theorem dX0_keep_28 : decode cX0_keep 28 = .ok (.isub, 1) := by decide +kernel
theorem dX0_keep_29 : decode cX0_keep 29 = .ok (.if_icmp .gt 26, 3) := by decide +kernel
theorem dX0_keep_32 : decode cX0_keep 32 = .ok (.aload_n 2, 1) := by decide +kernel
theorem dX0_keep_33 : decode cX0_keep 33 = .ok (.iload_n 3, 1) := by decide +kernel
theorem dX0_keep_34 : decode cX0_keep 34 = .ok (.aload_n 0, 1) := by decide +kernel
theorem dX0_keep_35 : decode cX0_keep 35 = .ok (.getfield 15, 3) := by decide +kernel
theorem dX0_keep_38 : decode cX0_keep 38 = .ok (.iload_n 1, 1) := by decide +kernel
theorem dX0_keep_39 : decode cX0_keep 39 = .ok (.invokestatic 35, 3) := by decide +kernel
theorem dX0_keep_42 : decode cX0_keep 42 = .ok (.iload 4, 2) := by decide +kernel
theorem dX0_keep_44 : decode cX0_keep 44 = .ok (.invokestatic 39, 3) := by decide +kernel
theorem dX0_keep_47 : decode cX0_keep 47 = .ok (.aload_n 0, 1) := by decide +kernel
theorem dX0_keep_48 : decode cX0_keep 48 = .ok (.getfield 9, 3) := by decide +kernel
theorem dX0_keep_51 : decode cX0_keep 51 = .ok (.iload_n 1, 1) := by decide +kernel
theorem dX0_keep_52 : decode cX0_keep 52 = .ok (.iload 4, 2) := by decide +kernel
theorem dX0_keep_54 : decode cX0_keep 54 = .ok (.iastore, 1) := by decide +kernel
theorem dX0_keep_55 : decode cX0_keep 55 = .ok (.return_, 1) := by decide +kernel
set_option maxRecDepth 20000 in
theorem ggX0_drop_X0_has : GoodIn wsX0_drop wsX0_has := goodIn_r _ [6, 7, 8, 9, 5, 10, 1, 11, 12] (by decide +kernel) (by decide +kernel)
set_option maxRecDepth 20000 in
theorem gX0_drop_X0_has : GoodIn wsX0_drop (wsV RX0 45 RX0 yX0_has wsX0_has) := goodIn_app (goodIn_of _ (by decide +kernel)) ggX0_drop_X0_has
theorem dX0_drop_0 : decode cX0_drop 0 = .ok (.aload_n 0, 1) := by decide +kernel
theorem dX0_drop_1 : decode cX0_drop 1 = .ok (.iload_n 1, 1) := by decide +kernel
theorem dX0_drop_2 : decode cX0_drop 2 = .ok (.invokevirtual 45, 3) := by decide +kernel
theorem dX0_drop_5 : decode cX0_drop 5 = .ok (.ifCond .eq 10, 3) := by decide +kernel
theorem dX0_drop_8 : decode cX0_drop 8 = .ok (.aload_n 0, 1) := by decide +kernel
theorem dX0_drop_9 : decode cX0_drop 9 = .ok (.getfield 9, 3) := by decide +kernel
theorem dX0_drop_12 : decode cX0_drop 12 = .ok (.iload_n 1, 1) := by decide +kernel
theorem dX0_drop_13 : decode cX0_drop 13 = .ok (.iconst (-1), 1) := by decide +kernel
theorem dX0_drop_14 : decode cX0_drop 14 = .ok (.iastore, 1) := by decide +kernel
theorem dX0_drop_15 : decode cX0_drop 15 = .ok (.return_, 1) := by decide +kernel
set_option maxRecDepth 20000 in
theorem ggX0_has_X0_sizeOf : GoodIn wsX0_has wsX0_sizeOf := goodIn_r _ [5, 6, 7, 8] (by decide +kernel) (by decide +kernel)
set_option maxRecDepth 20000 in
theorem gX0_has_X0_sizeOf : GoodIn wsX0_has (wsV RX0 48 RX0 yX0_sizeOf wsX0_sizeOf) := goodIn_app (goodIn_of _ (by decide +kernel)) ggX0_has_X0_sizeOf
theorem dX0_has_0 : decode cX0_has 0 = .ok (.aload_n 0, 1) := by decide +kernel
theorem dX0_has_1 : decode cX0_has 1 = .ok (.iload_n 1, 1) := by decide +kernel
theorem dX0_has_2 : decode cX0_has 2 = .ok (.invokevirtual 48, 3) := by decide +kernel
theorem dX0_has_5 : decode cX0_has 5 = .ok (.iconst (-1), 1) := by decide +kernel
theorem dX0_has_6 : decode cX0_has 6 = .ok (.if_icmp .eq 7, 3) := by decide +kernel
theorem dX0_has_9 : decode cX0_has 9 = .ok (.iconst 1, 1) := by decide +kernel
theorem dX0_has_10 : decode cX0_has 10 = .ok (.goto 4, 3) := by decide +kernel
theorem dX0_has_13 : decode cX0_has 13 = .ok (.iconst 0, 1) := by decide +kernel
theorem dX0_has_14 : decode cX0_has 14 = .ok (.ireturn, 1) := by decide +kernel
theorem dX0_sizeOf_0 : decode cX0_sizeOf 0 = .ok (.iload_n 1, 1) := by decide +kernel
theorem dX0_sizeOf_1 : decode cX0_sizeOf 1 = .ok (.ifCond .lt 21, 3) := by decide +kernel
theorem dX0_sizeOf_4 : decode cX0_sizeOf 4 = .ok (.iload_n 1, 1) := by decide +kernel
theorem dX0_sizeOf_5 : decode cX0_sizeOf 5 = .ok (.aload_n 0, 1) := by decide +kernel
theorem dX0_sizeOf_6 : decode cX0_sizeOf 6 = .ok (.getfield 9, 3) := by decide +kernel
theorem dX0_sizeOf_9 : decode cX0_sizeOf 9 = .ok (.arraylength, 1) := by decide +kernel
theorem dX0_sizeOf_10 : decode cX0_sizeOf 10 = .ok (.if_icmp .ge 12, 3) := by decide +kernel
theorem dX0_sizeOf_13 : decode cX0_sizeOf 13 = .ok (.aload_n 0, 1) := by decide +kernel
theorem dX0_sizeOf_14 : decode cX0_sizeOf 14 = .ok (.getfield 9, 3) := by decide +kernel
theorem dX0_sizeOf_17 : decode cX0_sizeOf 17 = .ok (.iload_n 1, 1) := by decide +kernel
theorem dX0_sizeOf_18 : decode cX0_sizeOf 18 = .ok (.iaload, 1) := by decide +kernel
theorem dX0_sizeOf_19 : decode cX0_sizeOf 19 = .ok (.goto 4, 3) := by decide +kernel
theorem dX0_sizeOf_22 : decode cX0_sizeOf 22 = .ok (.iconst (-1), 1) := by decide +kernel
theorem dX0_sizeOf_23 : decode cX0_sizeOf 23 = .ok (.ireturn, 1) := by decide +kernel
set_option maxRecDepth 20000 in
theorem ggX0_byteAt_X0_sizeOf : GoodIn wsX0_byteAt wsX0_sizeOf := goodIn_r _ [6, 7, 11, 12] (by decide +kernel) (by decide +kernel)
set_option maxRecDepth 20000 in
theorem gX0_byteAt_X0_sizeOf : GoodIn wsX0_byteAt (wsV RX0 48 RX0 yX0_sizeOf wsX0_sizeOf) := goodIn_app (goodIn_of _ (by decide +kernel)) ggX0_byteAt_X0_sizeOf
set_option maxRecDepth 20000 in
theorem ggX0_byteAt_X0_startOf : GoodIn wsX0_byteAt wsX0_startOf := goodIn_r _ [10] (by decide +kernel) (by decide +kernel)
set_option maxRecDepth 20000 in
theorem gX0_byteAt_X0_startOf : GoodIn wsX0_byteAt (va_wsS RX0 35 yX0_startOf wsX0_startOf) := goodIn_app (goodIn_of _ (by decide +kernel)) ggX0_byteAt_X0_startOf
theorem dX0_byteAt_0 : decode cX0_byteAt 0 = .ok (.iload_n 2, 1) := by decide +kernel
theorem dX0_byteAt_1 : decode cX0_byteAt 1 = .ok (.ifCond .lt 12, 3) := by decide +kernel
theorem dX0_byteAt_4 : decode cX0_byteAt 4 = .ok (.iload_n 2, 1) := by decide +kernel
theorem dX0_byteAt_5 : decode cX0_byteAt 5 = .ok (.aload_n 0, 1) := by decide +kernel
theorem dX0_byteAt_6 : decode cX0_byteAt 6 = .ok (.iload_n 1, 1) := by decide +kernel
theorem dX0_byteAt_7 : decode cX0_byteAt 7 = .ok (.invokevirtual 48, 3) := by decide +kernel
theorem dX0_byteAt_10 : decode cX0_byteAt 10 = .ok (.if_icmp .lt 5, 3) := by decide +kernel
theorem dX0_byteAt_13 : decode cX0_byteAt 13 = .ok (.iconst (-1), 1) := by decide +kernel
theorem dX0_byteAt_14 : decode cX0_byteAt 14 = .ok (.ireturn, 1) := by decide +kernel
theorem dX0_byteAt_15 : decode cX0_byteAt 15 = .ok (.aload_n 0, 1) := by decide +kernel
theorem dX0_byteAt_16 : decode cX0_byteAt 16 = .ok (.getfield 15, 3) := by decide +kernel
theorem dX0_byteAt_19 : decode cX0_byteAt 19 = .ok (.iload_n 1, 1) := by decide +kernel
theorem dX0_byteAt_20 : decode cX0_byteAt 20 = .ok (.invokestatic 35, 3) := by decide +kernel
theorem dX0_byteAt_23 : decode cX0_byteAt 23 = .ok (.iload_n 2, 1) := by decide +kernel
theorem dX0_byteAt_24 : decode cX0_byteAt 24 = .ok (.iadd, 1) := by decide +kernel
theorem dX0_byteAt_25 : decode cX0_byteAt 25 = .ok (.baload, 1) := by decide +kernel
theorem dX0_byteAt_26 : decode cX0_byteAt 26 = .ok (.sipush 255, 3) := by decide +kernel
theorem dX0_byteAt_29 : decode cX0_byteAt 29 = .ok (.iand, 1) := by decide +kernel
theorem dX0_byteAt_30 : decode cX0_byteAt 30 = .ok (.ireturn, 1) := by decide +kernel
set_option maxRecDepth 20000 in
theorem ggX0_isSame_X0_sizeOf : GoodIn wsX0_isSame wsX0_sizeOf := goodIn_r _ [6, 7, 11, 12] (by decide +kernel) (by decide +kernel)
set_option maxRecDepth 20000 in
theorem gX0_isSame_X0_sizeOf : GoodIn wsX0_isSame (wsV RX0 48 RX0 yX0_sizeOf wsX0_sizeOf) := goodIn_app (goodIn_of _ (by decide +kernel)) ggX0_isSame_X0_sizeOf
set_option maxRecDepth 20000 in
theorem ggX0_isSame_X0_startOf : GoodIn wsX0_isSame wsX0_startOf := goodIn_r _ [10] (by decide +kernel) (by decide +kernel)
set_option maxRecDepth 20000 in
theorem gX0_isSame_X0_startOf : GoodIn wsX0_isSame (va_wsS RX0 35 yX0_startOf wsX0_startOf) := goodIn_app (goodIn_of _ (by decide +kernel)) ggX0_isSame_X0_startOf
theorem dX0_isSame_0 : decode cX0_isSame 0 = .ok (.aload_n 0, 1) := by decide +kernel
theorem dX0_isSame_1 : decode cX0_isSame 1 = .ok (.iload_n 1, 1) := by decide +kernel
theorem dX0_isSame_2 : decode cX0_isSame 2 = .ok (.invokevirtual 48, 3) := by decide +kernel
theorem dX0_isSame_5 : decode cX0_isSame 5 = .ok (.iload 4, 2) := by decide +kernel
theorem dX0_isSame_7 : decode cX0_isSame 7 = .ok (.if_icmp .ne 16, 3) := by decide +kernel
theorem dX0_isSame_10 : decode cX0_isSame 10 = .ok (.iload_n 3, 1) := by decide +kernel
theorem dX0_isSame_11 : decode cX0_isSame 11 = .ok (.ifCond .lt 12, 3) := by decide +kernel
theorem dX0_isSame_14 : decode cX0_isSame 14 = .ok (.iload_n 3, 1) := by decide +kernel
theorem dX0_isSame_15 : decode cX0_isSame 15 = .ok (.aload_n 2, 1) := by decide +kernel
theorem dX0_isSame_16 : decode cX0_isSame 16 = .ok (.arraylength, 1) := by decide +kernel
theorem dX0_isSame_17 : decode cX0_isSame 17 = .ok (.iload 4, 2) := by decide +kernel
theorem dX0_isSame_19 : decode cX0_isSame 19 = .ok (.isub, 1) := by decide +kernel
theorem dX0_isSame_20 : decode cX0_isSame 20 = .ok (.if_icmp .le 5, 3) := by decide +kernel
theorem dX0_isSame_23 : decode cX0_isSame 23 = .ok (.iconst 0, 1) := by decide +kernel
theorem dX0_isSame_24 : decode cX0_isSame 24 = .ok (.ireturn, 1) := by decide +kernel
theorem dX0_isSame_25 : decode cX0_isSame 25 = .ok (.iload_n 1, 1) := by decide +kernel
theorem dX0_isSame_26 : decode cX0_isSame 26 = .ok (.invokestatic 35, 3) := by decide +kernel
theorem dX0_isSame_29 : decode cX0_isSame 29 = .ok (.istore 5, 2) := by decide +kernel
theorem dX0_isSame_31 : decode cX0_isSame 31 = .ok (.iconst 0, 1) := by decide +kernel
theorem dX0_isSame_32 : decode cX0_isSame 32 = .ok (.istore 6, 2) := by decide +kernel
theorem dX0_isSame_34 : decode cX0_isSame 34 = .ok (.iload 6, 2) := by decide +kernel
theorem dX0_isSame_36 : decode cX0_isSame 36 = .ok (.iload 4, 2) := by decide +kernel
theorem dX0_isSame_38 : decode cX0_isSame 38 = .ok (.if_icmp .ge 30, 3) := by decide +kernel
theorem dX0_isSame_41 : decode cX0_isSame 41 = .ok (.aload_n 0, 1) := by decide +kernel
theorem dX0_isSame_42 : decode cX0_isSame 42 = .ok (.getfield 15, 3) := by decide +kernel
theorem dX0_isSame_45 : decode cX0_isSame 45 = .ok (.iload 5, 2) := by decide +kernel
theorem dX0_isSame_47 : decode cX0_isSame 47 = .ok (.iload 6, 2) := by decide +kernel
theorem dX0_isSame_49 : decode cX0_isSame 49 = .ok (.iadd, 1) := by decide +kernel
theorem dX0_isSame_50 : decode cX0_isSame 50 = .ok (.baload, 1) := by decide +kernel
theorem dX0_isSame_51 : decode cX0_isSame 51 = .ok (.aload_n 2, 1) := by decide +kernel
theorem dX0_isSame_52 : decode cX0_isSame 52 = .ok (.iload_n 3, 1) := by decide +kernel
theorem dX0_isSame_53 : decode cX0_isSame 53 = .ok (.iload 6, 2) := by decide +kernel
theorem dX0_isSame_55 : decode cX0_isSame 55 = .ok (.iadd, 1) := by decide +kernel
theorem dX0_isSame_56 : decode cX0_isSame 56 = .ok (.baload, 1) := by decide +kernel
theorem dX0_isSame_57 : decode cX0_isSame 57 = .ok (.if_icmp .eq 5, 3) := by decide +kernel
theorem dX0_isSame_60 : decode cX0_isSame 60 = .ok (.iconst 0, 1) := by decide +kernel
theorem dX0_isSame_61 : decode cX0_isSame 61 = .ok (.ireturn, 1) := by decide +kernel
theorem dX0_isSame_62 : decode cX0_isSame 62 = .ok (.iinc 6 1, 3) := by decide +kernel
theorem dX0_isSame_65 : decode cX0_isSame 65 = .ok (.goto (-31), 3) := by decide +kernel
theorem dX0_isSame_68 : decode cX0_isSame 68 = .ok (.iconst 1, 1) := by decide +kernel
theorem dX0_isSame_69 : decode cX0_isSame 69 = .ok (.ireturn, 1) := by decide +kernel
set_option maxRecDepth 20000 in
theorem ggX0_isSameStation_X0_startOf : GoodIn wsX0_isSameStation wsX0_startOf := goodIn_r _ [5] (by decide +kernel) (by decide +kernel)
set_option maxRecDepth 20000 in
theorem gX0_isSameStation_X0_startOf : GoodIn wsX0_isSameStation (va_wsS RX0 35 yX0_startOf wsX0_startOf) := goodIn_app (goodIn_of _ (by decide +kernel)) ggX0_isSameStation_X0_startOf
set_option maxRecDepth 20000 in
theorem ggX0_isSameStation_X0_sizeOf : GoodIn wsX0_isSameStation wsX0_sizeOf := goodIn_r _ [9, 10, 15, 16] (by decide +kernel) (by decide +kernel)
set_option maxRecDepth 20000 in
theorem gX0_isSameStation_X0_sizeOf : GoodIn wsX0_isSameStation (wsV RX0 48 RX0 yX0_sizeOf wsX0_sizeOf) := goodIn_app (goodIn_of _ (by decide +kernel)) ggX0_isSameStation_X0_sizeOf
set_option maxRecDepth 20000 in
theorem ggX0_isSameStation_X0_isSame : GoodIn wsX0_isSameStation wsX0_isSame := goodIn_r _ [14, 1, 6, 7, 8, 4, 9, 10, 2, 3, 5, 15, 16] (by decide +kernel) (by decide +kernel)
set_option maxRecDepth 20000 in
theorem gX0_isSameStation_X0_isSame : GoodIn wsX0_isSameStation (wsV RX0 51 RX0 yX0_isSame wsX0_isSame) := goodIn_app (goodIn_of _ (by decide +kernel)) ggX0_isSameStation_X0_isSame
theorem dX0_isSameStation_0 : decode cX0_isSameStation 0 = .ok (.aload_n 0, 1) := by decide +kernel
theorem dX0_isSameStation_1 : decode cX0_isSameStation 1 = .ok (.iconst 1, 1) := by decide +kernel
theorem dX0_isSameStation_2 : decode cX0_isSameStation 2 = .ok (.aload_n 1, 1) := by decide +kernel
theorem dX0_isSameStation_3 : decode cX0_isSameStation 3 = .ok (.getfield 15, 3) := by decide +kernel
theorem dX0_isSameStation_6 : decode cX0_isSameStation 6 = .ok (.iconst 1, 1) := by decide +kernel
theorem dX0_isSameStation_7 : decode cX0_isSameStation 7 = .ok (.invokestatic 35, 3) := by decide +kernel
theorem dX0_isSameStation_10 : decode cX0_isSameStation 10 = .ok (.aload_n 1, 1) := by decide +kernel
theorem dX0_isSameStation_11 : decode cX0_isSameStation 11 = .ok (.iconst 1, 1) := by decide +kernel
theorem dX0_isSameStation_12 : decode cX0_isSameStation 12 = .ok (.invokevirtual 48, 3) := by decide +kernel
theorem dX0_isSameStation_15 : decode cX0_isSameStation 15 = .ok (.invokevirtual 51, 3) := by decide +kernel
theorem dX0_isSameStation_18 : decode cX0_isSameStation 18 = .ok (.ifCond .eq 28, 3) := by decide +kernel
theorem dX0_isSameStation_21 : decode cX0_isSameStation 21 = .ok (.aload_n 0, 1) := by decide +kernel
theorem dX0_isSameStation_22 : decode cX0_isSameStation 22 = .ok (.iconst 2, 1) := by decide +kernel
theorem dX0_isSameStation_23 : decode cX0_isSameStation 23 = .ok (.aload_n 1, 1) := by decide +kernel
theorem dX0_isSameStation_24 : decode cX0_isSameStation 24 = .ok (.getfield 15, 3) := by decide +kernel
theorem dX0_isSameStation_27 : decode cX0_isSameStation 27 = .ok (.iconst 2, 1) := by decide +kernel
theorem dX0_isSameStation_28 : decode cX0_isSameStation 28 = .ok (.invokestatic 35, 3) := by decide +kernel
theorem dX0_isSameStation_31 : decode cX0_isSameStation 31 = .ok (.aload_n 1, 1) := by decide +kernel
theorem dX0_isSameStation_32 : decode cX0_isSameStation 32 = .ok (.iconst 2, 1) := by decide +kernel
theorem dX0_isSameStation_33 : decode cX0_isSameStation 33 = .ok (.invokevirtual 48, 3) := by decide +kernel
theorem dX0_isSameStation_36 : decode cX0_isSameStation 36 = .ok (.invokevirtual 51, 3) := by decide +kernel
theorem dX0_isSameStation_39 : decode cX0_isSameStation 39 = .ok (.ifCond .eq 7, 3) := by decide +kernel
theorem dX0_isSameStation_42 : decode cX0_isSameStation 42 = .ok (.iconst 1, 1) := by decide +kernel
theorem dX0_isSameStation_43 : decode cX0_isSameStation 43 = .ok (.goto 4, 3) := by decide +kernel
theorem dX0_isSameStation_46 : decode cX0_isSameStation 46 = .ok (.iconst 0, 1) := by decide +kernel
theorem dX0_isSameStation_47 : decode cX0_isSameStation 47 = .ok (.ireturn, 1) := by decide +kernel
set_option maxRecDepth 20000 in
theorem ggX0_typeBits_X0_has : GoodIn wsX0_typeBits wsX0_has := goodIn_r _ [5, 6, 7, 8, 4, 9, 10, 11, 12] (by decide +kernel) (by decide +kernel)
set_option maxRecDepth 20000 in
theorem gX0_typeBits_X0_has : GoodIn wsX0_typeBits (wsV RX0 45 RX0 yX0_has wsX0_has) := goodIn_app (goodIn_of _ (by decide +kernel)) ggX0_typeBits_X0_has
theorem dX0_typeBits_0 : decode cX0_typeBits 0 = .ok (.iconst 0, 1) := by decide +kernel
theorem dX0_typeBits_1 : decode cX0_typeBits 1 = .ok (.istore_n 1, 1) := by decide +kernel
theorem dX0_typeBits_2 : decode cX0_typeBits 2 = .ok (.iconst 1, 1) := by decide +kernel
theorem dX0_typeBits_3 : decode cX0_typeBits 3 = .ok (.istore_n 2, 1) := by decide +kernel
theorem dX0_typeBits_4 : decode cX0_typeBits 4 = .ok (.iload_n 2, 1) := by decide +kernel
theorem dX0_typeBits_5 : decode cX0_typeBits 5 = .ok (.bipush 8, 2) := by decide +kernel
theorem dX0_typeBits_7 : decode cX0_typeBits 7 = .ok (.if_icmp .gt 23, 3) := by decide +kernel
theorem dX0_typeBits_10 : decode cX0_typeBits 10 = .ok (.aload_n 0, 1) := by decide +kernel
theorem dX0_typeBits_11 : decode cX0_typeBits 11 = .ok (.iload_n 2, 1) := by decide +kernel
theorem dX0_typeBits_12 : decode cX0_typeBits 12 = .ok (.invokevirtual 45, 3) := by decide +kernel
theorem dX0_typeBits_15 : decode cX0_typeBits 15 = .ok (.ifCond .eq 9, 3) := by decide +kernel
theorem dX0_typeBits_18 : decode cX0_typeBits 18 = .ok (.iload_n 1, 1) := by decide +kernel
theorem dX0_typeBits_19 : decode cX0_typeBits 19 = .ok (.iconst 1, 1) := by decide +kernel
theorem dX0_typeBits_20 : decode cX0_typeBits 20 = .ok (.iload_n 2, 1) := by decide +kernel
theorem dX0_typeBits_21 : decode cX0_typeBits 21 = .ok (.ishl, 1) := by decide +kernel
theorem dX0_typeBits_22 : decode cX0_typeBits 22 = .ok (.ior, 1) := by decide +kernel
theorem dX0_typeBits_23 : decode cX0_typeBits 23 = .ok (.istore_n 1, 1) := by decide +kernel
theorem dX0_typeBits_24 : decode cX0_typeBits 24 = .ok (.iinc 2 1, 3) := by decide +kernel
theorem dX0_typeBits_27 : decode cX0_typeBits 27 = .ok (.goto (-23), 3) := by decide +kernel
theorem dX0_typeBits_30 : decode cX0_typeBits 30 = .ok (.iload_n 1, 1) := by decide +kernel
theorem dX0_typeBits_31 : decode cX0_typeBits 31 = .ok (.ireturn, 1) := by decide +kernel
set_option maxRecDepth 20000 in
theorem ggX1_init_X0_init : GoodIn wsX1_init wsX0_init := goodIn_r _ [10, 11, 2, 3, 12, 13, 14, 15, 16, 17, 18, 6, 19, 20, 21, 22, 23, 24, 25] (by decide +kernel) (by decide +kernel)
set_option maxRecDepth 20000 in
theorem gX1_init_X0_init : GoodIn wsX1_init (wsX0_init) := ggX1_init_X0_init
theorem dX1_init_0 : decode cX1_init 0 = .ok (.aload_n 0, 1) := by decide +kernel
theorem dX1_init_1 : decode cX1_init 1 = .ok (.invokespecial 3, 3) := by decide +kernel
theorem dX1_init_4 : decode cX1_init 4 = .ok (.aload_n 0, 1) := by decide +kernel
theorem dX1_init_5 : decode cX1_init 5 = .ok (.new 9, 3) := by decide +kernel
theorem dX1_init_8 : decode cX1_init 8 = .ok (.dup, 1) := by decide +kernel
theorem dX1_init_9 : decode cX1_init 9 = .ok (.invokespecial 11, 3) := by decide +kernel
theorem dX1_init_12 : decode cX1_init 12 = .ok (.putfield 12, 3) := by decide +kernel
theorem dX1_init_15 : decode cX1_init 15 = .ok (.return_, 1) := by decide +kernel
theorem dX1_contents_0 : decode cX1_contents 0 = .ok (.aload_n 0, 1) := by decide +kernel
theorem dX1_contents_1 : decode cX1_contents 1 = .ok (.getfield 12, 3) := by decide +kernel
theorem dX1_contents_4 : decode cX1_contents 4 = .ok (.areturn, 1) := by decide +kernel
theorem dX1_held_0 : decode cX1_held 0 = .ok (.aload_n 0, 1) := by decide +kernel
theorem dX1_held_1 : decode cX1_held 1 = .ok (.getfield 18, 3) := by decide +kernel
theorem dX1_held_4 : decode cX1_held 4 = .ok (.ireturn, 1) := by decide +kernel
theorem dX1_useNext_0 : decode cX1_useNext 0 = .ok (.aload_n 0, 1) := by decide +kernel
theorem dX1_useNext_1 : decode cX1_useNext 1 = .ok (.aload_n 1, 1) := by decide +kernel
theorem dX1_useNext_2 : decode cX1_useNext 2 = .ok (.putfield 12, 3) := by decide +kernel
theorem dX1_useNext_5 : decode cX1_useNext 5 = .ok (.return_, 1) := by decide +kernel
set_option maxRecDepth 20000 in
theorem ggX1_read_X0_clear : GoodIn wsX1_read wsX0_clear := goodIn_r _ [6, 7, 8, 9, 10, 11, 59, 60] (by decide +kernel) (by decide +kernel)
set_option maxRecDepth 20000 in
theorem gX1_read_X0_clear : GoodIn wsX1_read (wsV RX1 22 RX0 yX0_clear wsX0_clear) := goodIn_app (goodIn_of _ (by decide +kernel)) ggX1_read_X0_clear
set_option maxRecDepth 20000 in
theorem ggX1_read_X1_pairAt : GoodIn wsX1_read wsX1_pairAt := goodIn_r _ [15] (by decide +kernel) (by decide +kernel)
set_option maxRecDepth 20000 in
theorem gX1_read_X1_pairAt : GoodIn wsX1_read (va_wsS RX1 25 yX1_pairAt wsX1_pairAt) := goodIn_app (goodIn_of _ (by decide +kernel)) ggX1_read_X1_pairAt
set_option maxRecDepth 20000 in
theorem ggX1_read_X1_faultOfPart : GoodIn wsX1_read wsX1_faultOfPart := goodIn_r _ [19, 1, 20, 21, 14, 22, 23, 24, 25, 26, 27, 28, 29, 30, 31, 5, 32, 33, 34, 35, 36, 7, 57, 58, 59, 60] (by decide +kernel) (by decide +kernel)
set_option maxRecDepth 20000 in
theorem gX1_read_X1_faultOfPart : GoodIn wsX1_read (wsV RX1 29 RX1 yX1_faultOfPart wsX1_faultOfPart) := goodIn_app (goodIn_of _ (by decide +kernel)) ggX1_read_X1_faultOfPart
set_option maxRecDepth 20000 in
theorem ggX1_read_X1_takePart : GoodIn wsX1_read wsX1_takePart := goodIn_r _ [40, 41, 1, 12, 13, 14, 15, 42, 43, 44, 5, 45, 46, 47, 48, 49, 50, 7, 51, 52, 53, 26, 27, 28, 54, 55, 56, 57, 58, 59, 60] (by decide +kernel) (by decide +kernel)
set_option maxRecDepth 20000 in
theorem gX1_read_X1_takePart : GoodIn wsX1_read (wsV RX1 33 RX1 yX1_takePart wsX1_takePart) := goodIn_app (goodIn_of _ (by decide +kernel)) ggX1_read_X1_takePart
theorem dX1_read_0 : decode cX1_read 0 = .ok (.aload_n 0, 1) := by decide +kernel
theorem dX1_read_1 : decode cX1_read 1 = .ok (.getfield 12, 3) := by decide +kernel
theorem dX1_read_4 : decode cX1_read 4 = .ok (.invokevirtual 22, 3) := by decide +kernel
theorem dX1_read_7 : decode cX1_read 7 = .ok (.iconst 0, 1) := by decide +kernel
theorem dX1_read_8 : decode cX1_read 8 = .ok (.istore_n 3, 1) := by decide +kernel
theorem dX1_read_9 : decode cX1_read 9 = .ok (.iconst 0, 1) := by decide +kernel
theorem dX1_read_10 : decode cX1_read 10 = .ok (.istore 4, 2) := by decide +kernel
theorem dX1_read_12 : decode cX1_read 12 = .ok (.iload 4, 2) := by decide +kernel
theorem dX1_read_14 : decode cX1_read 14 = .ok (.sipush 350, 3) := by decide +kernel
theorem dX1_read_17 : decode cX1_read 17 = .ok (.if_icmp .gt 91, 3) := by decide +kernel
theorem dX1_read_20 : decode cX1_read 20 = .ok (.iload_n 2, 1) := by decide +kernel
theorem dX1_read_21 : decode cX1_read 21 = .ok (.iload_n 3, 1) := by decide +kernel
theorem dX1_read_22 : decode cX1_read 22 = .ok (.isub, 1) := by decide +kernel
theorem dX1_read_23 : decode cX1_read 23 = .ok (.iconst 2, 1) := by decide +kernel
theorem dX1_read_24 : decode cX1_read 24 = .ok (.isub, 1) := by decide +kernel
theorem dX1_read_25 : decode cX1_read 25 = .ok (.istore 5, 2) := by decide +kernel
theorem dX1_read_27 : decode cX1_read 27 = .ok (.iload 5, 2) := by decide +kernel
theorem dX1_read_29 : decode cX1_read 29 = .ok (.ifCond .ge 5, 3) := by decide +kernel
theorem dX1_read_32 : decode cX1_read 32 = .ok (.iconst 1, 1) := by decide +kernel
theorem dX1_read_33 : decode cX1_read 33 = .ok (.ireturn, 1) := by decide +kernel
theorem dX1_read_34 : decode cX1_read 34 = .ok (.aload_n 1, 1) := by decide +kernel
theorem dX1_read_35 : decode cX1_read 35 = .ok (.iload_n 3, 1) := by decide +kernel
theorem dX1_read_36 : decode cX1_read 36 = .ok (.invokestatic 25, 3) := by decide +kernel
theorem dX1_read_39 : decode cX1_read 39 = .ok (.istore 6, 2) := by decide +kernel
theorem dX1_read_41 : decode cX1_read 41 = .ok (.iload 6, 2) := by decide +kernel
theorem dX1_read_43 : decode cX1_read 43 = .ok (.bipush 9, 2) := by decide +kernel
theorem dX1_read_45 : decode cX1_read 45 = .ok (.ishr, 1) := by decide +kernel
theorem dX1_read_46 : decode cX1_read 46 = .ok (.istore 7, 2) := by decide +kernel
theorem dX1_read_48 : decode cX1_read 48 = .ok (.iload 6, 2) := by decide +kernel
theorem dX1_read_50 : decode cX1_read 50 = .ok (.sipush 511, 3) := by decide +kernel
theorem dX1_read_53 : decode cX1_read 53 = .ok (.iand, 1) := by decide +kernel
theorem dX1_read_54 : decode cX1_read 54 = .ok (.istore 8, 2) := by decide +kernel
theorem dX1_read_56 : decode cX1_read 56 = .ok (.aload_n 0, 1) := by decide +kernel
theorem dX1_read_57 : decode cX1_read 57 = .ok (.iload 4, 2) := by decide +kernel
theorem dX1_read_59 : decode cX1_read 59 = .ok (.iload 7, 2) := by decide +kernel
theorem dX1_read_61 : decode cX1_read 61 = .ok (.iload 8, 2) := by decide +kernel
theorem dX1_read_63 : decode cX1_read 63 = .ok (.iload 5, 2) := by decide +kernel
theorem dX1_read_65 : decode cX1_read 65 = .ok (.invokevirtual 29, 3) := by decide +kernel
theorem dX1_read_68 : decode cX1_read 68 = .ok (.istore 9, 2) := by decide +kernel
theorem dX1_read_70 : decode cX1_read 70 = .ok (.iload 9, 2) := by decide +kernel
theorem dX1_read_72 : decode cX1_read 72 = .ok (.ifCond .ne 8, 3) := by decide +kernel
theorem dX1_read_75 : decode cX1_read 75 = .ok (.iload 7, 2) := by decide +kernel
theorem dX1_read_77 : decode cX1_read 77 = .ok (.ifCond .ne 6, 3) := by decide +kernel
theorem dX1_read_80 : decode cX1_read 80 = .ok (.iload 9, 2) := by decide +kernel
theorem dX1_read_82 : decode cX1_read 82 = .ok (.ireturn, 1) := by decide +kernel
theorem dX1_read_83 : decode cX1_read 83 = .ok (.aload_n 0, 1) := by decide +kernel
theorem dX1_read_84 : decode cX1_read 84 = .ok (.iload 7, 2) := by decide +kernel
theorem dX1_read_86 : decode cX1_read 86 = .ok (.aload_n 1, 1) := by decide +kernel
theorem dX1_read_87 : decode cX1_read 87 = .ok (.iload_n 3, 1) := by decide +kernel
theorem dX1_read_88 : decode cX1_read 88 = .ok (.iconst 2, 1) := by decide +kernel
theorem dX1_read_89 : decode cX1_read 89 = .ok (.iadd, 1) := by decide +kernel
theorem dX1_read_90 : decode cX1_read 90 = .ok (.iload 8, 2) := by decide +kernel
theorem dX1_read_92 : decode cX1_read 92 = .ok (.invokevirtual 33, 3) := by decide +kernel
theorem dX1_read_95 : decode cX1_read 95 = .ok (.iload_n 3, 1) := by decide +kernel
theorem dX1_read_96 : decode cX1_read 96 = .ok (.iconst 2, 1) := by decide +kernel
theorem dX1_read_97 : decode cX1_read 97 = .ok (.iload 8, 2) := by decide +kernel
theorem dX1_read_99 : decode cX1_read 99 = .ok (.iadd, 1) := by decide +kernel
theorem dX1_read_100 : decode cX1_read 100 = .ok (.iadd, 1) := by decide +kernel
theorem dX1_read_101 : decode cX1_read 101 = .ok (.istore_n 3, 1) := by decide +kernel
theorem dX1_read_102 : decode cX1_read 102 = .ok (.iinc 4 1, 3) := by decide +kernel
theorem dX1_read_105 : decode cX1_read 105 = .ok (.goto (-93), 3) := by decide +kernel
theorem dX1_read_108 : decode cX1_read 108 = .ok (.iconst 1, 1) := by decide +kernel
theorem dX1_read_109 : decode cX1_read 109 = .ok (.ireturn, 1) := by decide +kernel
set_option maxRecDepth 20000 in
theorem ggX1_faultOfPart_X1_isOutOfOrder : GoodIn wsX1_faultOfPart wsX1_isOutOfOrder := goodIn_r _ [5] (by decide +kernel) (by decide +kernel)
set_option maxRecDepth 20000 in
theorem gX1_faultOfPart_X1_isOutOfOrder : GoodIn wsX1_faultOfPart (va_wsS RX1 37 yX1_isOutOfOrder wsX1_isOutOfOrder) := goodIn_app (goodIn_of _ (by decide +kernel)) ggX1_faultOfPart_X1_isOutOfOrder
set_option maxRecDepth 20000 in
theorem ggX1_faultOfPart_X1_isWrongSize : GoodIn wsX1_faultOfPart wsX1_isWrongSize := goodIn_r _ [8, 9, 10, 11] (by decide +kernel) (by decide +kernel)
set_option maxRecDepth 20000 in
theorem gX1_faultOfPart_X1_isWrongSize : GoodIn wsX1_faultOfPart (va_wsS RX1 41 yX1_isWrongSize wsX1_isWrongSize) := goodIn_app (goodIn_of _ (by decide +kernel)) ggX1_faultOfPart_X1_isWrongSize
set_option maxRecDepth 20000 in
theorem ggX1_faultOfPart_X6_isMore : GoodIn wsX1_faultOfPart wsX6_isMore := goodIn_r _ [11] (by decide +kernel) (by decide +kernel)
set_option maxRecDepth 20000 in
theorem gX1_faultOfPart_X6_isMore_n44 : GoodIn wsX1_faultOfPart (wsX6_isMore) := ggX1_faultOfPart_X6_isMore
set_option maxRecDepth 20000 in
theorem ggX1_faultOfPart_X0_has : GoodIn wsX1_faultOfPart wsX0_has := goodIn_r _ [16, 17, 18, 19, 15, 20, 21, 24, 25] (by decide +kernel) (by decide +kernel)
set_option maxRecDepth 20000 in
theorem gX1_faultOfPart_X0_has : GoodIn wsX1_faultOfPart (wsV RX1 48 RX0 yX0_has wsX0_has) := goodIn_app (goodIn_of _ (by decide +kernel)) ggX1_faultOfPart_X0_has
theorem dX1_faultOfPart_0 : decode cX1_faultOfPart 0 = .ok (.iload_n 1, 1) := by decide +kernel
theorem dX1_faultOfPart_1 : decode cX1_faultOfPart 1 = .ok (.iload_n 2, 1) := by decide +kernel
theorem dX1_faultOfPart_2 : decode cX1_faultOfPart 2 = .ok (.invokestatic 37, 3) := by decide +kernel
theorem dX1_faultOfPart_5 : decode cX1_faultOfPart 5 = .ok (.ifCond .eq 5, 3) := by decide +kernel
theorem dX1_faultOfPart_8 : decode cX1_faultOfPart 8 = .ok (.iconst 2, 1) := by decide +kernel
theorem dX1_faultOfPart_9 : decode cX1_faultOfPart 9 = .ok (.ireturn, 1) := by decide +kernel
theorem dX1_faultOfPart_10 : decode cX1_faultOfPart 10 = .ok (.iload_n 2, 1) := by decide +kernel
theorem dX1_faultOfPart_11 : decode cX1_faultOfPart 11 = .ok (.iload_n 3, 1) := by decide +kernel
theorem dX1_faultOfPart_12 : decode cX1_faultOfPart 12 = .ok (.invokestatic 41, 3) := by decide +kernel
theorem dX1_faultOfPart_15 : decode cX1_faultOfPart 15 = .ok (.ifCond .eq 5, 3) := by decide +kernel
theorem dX1_faultOfPart_18 : decode cX1_faultOfPart 18 = .ok (.iconst 3, 1) := by decide +kernel
theorem dX1_faultOfPart_19 : decode cX1_faultOfPart 19 = .ok (.ireturn, 1) := by decide +kernel
theorem dX1_faultOfPart_20 : decode cX1_faultOfPart 20 = .ok (.iload_n 3, 1) := by decide +kernel
theorem dX1_faultOfPart_21 : decode cX1_faultOfPart 21 = .ok (.iload 4, 2) := by decide +kernel
theorem dX1_faultOfPart_23 : decode cX1_faultOfPart 23 = .ok (.if_icmp .le 5, 3) := by decide +kernel
theorem dX1_faultOfPart_26 : decode cX1_faultOfPart 26 = .ok (.iconst 1, 1) := by decide +kernel
theorem dX1_faultOfPart_27 : decode cX1_faultOfPart 27 = .ok (.ireturn, 1) := by decide +kernel
theorem dX1_faultOfPart_28 : decode cX1_faultOfPart 28 = .ok (.iload_n 2, 1) := by decide +kernel
theorem dX1_faultOfPart_29 : decode cX1_faultOfPart 29 = .ok (.invokestatic 44, 3) := by decide +kernel
theorem dX1_faultOfPart_32 : decode cX1_faultOfPart 32 = .ok (.ifCond .eq 18, 3) := by decide +kernel
theorem dX1_faultOfPart_35 : decode cX1_faultOfPart 35 = .ok (.aload_n 0, 1) := by decide +kernel
theorem dX1_faultOfPart_36 : decode cX1_faultOfPart 36 = .ok (.getfield 12, 3) := by decide +kernel
theorem dX1_faultOfPart_39 : decode cX1_faultOfPart 39 = .ok (.iload_n 2, 1) := by decide +kernel
theorem dX1_faultOfPart_40 : decode cX1_faultOfPart 40 = .ok (.invokevirtual 48, 3) := by decide +kernel
theorem dX1_faultOfPart_43 : decode cX1_faultOfPart 43 = .ok (.ifCond .eq 7, 3) := by decide +kernel
theorem dX1_faultOfPart_46 : decode cX1_faultOfPart 46 = .ok (.iconst 4, 1) := by decide +kernel
theorem dX1_faultOfPart_47 : decode cX1_faultOfPart 47 = .ok (.goto 4, 3) := by decide +kernel
theorem dX1_faultOfPart_50 : decode cX1_faultOfPart 50 = .ok (.iconst 0, 1) := by decide +kernel
theorem dX1_faultOfPart_51 : decode cX1_faultOfPart 51 = .ok (.ireturn, 1) := by decide +kernel
theorem dX1_isOutOfOrder_0 : decode cX1_isOutOfOrder 0 = .ok (.iload_n 0, 1) := by decide +kernel
theorem dX1_isOutOfOrder_1 : decode cX1_isOutOfOrder 1 = .ok (.iconst 3, 1) := by decide +kernel
theorem dX1_isOutOfOrder_2 : decode cX1_isOutOfOrder 2 = .ok (.if_icmp .ge 16, 3) := by decide +kernel
theorem dX1_isOutOfOrder_5 : decode cX1_isOutOfOrder 5 = .ok (.iload_n 1, 1) := by decide +kernel
theorem dX1_isOutOfOrder_6 : decode cX1_isOutOfOrder 6 = .ok (.iload_n 0, 1) := by decide +kernel
theorem dX1_isOutOfOrder_7 : decode cX1_isOutOfOrder 7 = .ok (.iconst 1, 1) := by decide +kernel
theorem dX1_isOutOfOrder_8 : decode cX1_isOutOfOrder 8 = .ok (.iadd, 1) := by decide +kernel
theorem dX1_isOutOfOrder_9 : decode cX1_isOutOfOrder 9 = .ok (.if_icmp .eq 7, 3) := by decide +kernel
theorem dX1_isOutOfOrder_12 : decode cX1_isOutOfOrder 12 = .ok (.iconst 1, 1) := by decide +kernel
theorem dX1_isOutOfOrder_13 : decode cX1_isOutOfOrder 13 = .ok (.goto 4, 3) := by decide +kernel
theorem dX1_isOutOfOrder_16 : decode cX1_isOutOfOrder 16 = .ok (.iconst 0, 1) := by decide +kernel
theorem dX1_isOutOfOrder_17 : decode cX1_isOutOfOrder 17 = .ok (.ireturn, 1) := by decide +kernel
theorem dX1_isOutOfOrder_18 : decode cX1_isOutOfOrder 18 = .ok (.iload_n 1, 1) := by decide +kernel
theorem dX1_isOutOfOrder_19 : decode cX1_isOutOfOrder 19 = .ok (.iconst 1, 1) := by decide +kernel
theorem dX1_isOutOfOrder_20 : decode cX1_isOutOfOrder 20 = .ok (.if_icmp .lt 12, 3) := by decide +kernel
theorem dX1_isOutOfOrder_23 : decode cX1_isOutOfOrder 23 = .ok (.iload_n 1, 1) := by decide +kernel
theorem dX1_isOutOfOrder_24 : decode cX1_isOutOfOrder 24 = .ok (.iconst 3, 1) := by decide +kernel
theorem dX1_isOutOfOrder_25 : decode cX1_isOutOfOrder 25 = .ok (.if_icmp .gt 7, 3) := by decide +kernel
theorem dX1_isOutOfOrder_28 : decode cX1_isOutOfOrder 28 = .ok (.iconst 1, 1) := by decide +kernel
theorem dX1_isOutOfOrder_29 : decode cX1_isOutOfOrder 29 = .ok (.goto 4, 3) := by decide +kernel
theorem dX1_isOutOfOrder_32 : decode cX1_isOutOfOrder 32 = .ok (.iconst 0, 1) := by decide +kernel
theorem dX1_isOutOfOrder_33 : decode cX1_isOutOfOrder 33 = .ok (.ireturn, 1) := by decide +kernel
set_option maxRecDepth 20000 in
theorem ggX1_isWrongSize_X6_isMore : GoodIn wsX1_isWrongSize wsX6_isMore := goodIn_r _ [3] (by decide +kernel) (by decide +kernel)
set_option maxRecDepth 20000 in
theorem gX1_isWrongSize_X6_isMore_n44 : GoodIn wsX1_isWrongSize (wsX6_isMore) := ggX1_isWrongSize_X6_isMore
theorem dX1_isWrongSize_0 : decode cX1_isWrongSize 0 = .ok (.iload_n 0, 1) := by decide +kernel
theorem dX1_isWrongSize_1 : decode cX1_isWrongSize 1 = .ok (.ifCond .ne 13, 3) := by decide +kernel
theorem dX1_isWrongSize_4 : decode cX1_isWrongSize 4 = .ok (.iload_n 1, 1) := by decide +kernel
theorem dX1_isWrongSize_5 : decode cX1_isWrongSize 5 = .ok (.ifCond .eq 7, 3) := by decide +kernel
theorem dX1_isWrongSize_8 : decode cX1_isWrongSize 8 = .ok (.iconst 1, 1) := by decide +kernel
theorem dX1_isWrongSize_9 : decode cX1_isWrongSize 9 = .ok (.goto 4, 3) := by decide +kernel
theorem dX1_isWrongSize_12 : decode cX1_isWrongSize 12 = .ok (.iconst 0, 1) := by decide +kernel
theorem dX1_isWrongSize_13 : decode cX1_isWrongSize 13 = .ok (.ireturn, 1) := by decide +kernel
theorem dX1_isWrongSize_14 : decode cX1_isWrongSize 14 = .ok (.iload_n 0, 1) := by decide +kernel
theorem dX1_isWrongSize_15 : decode cX1_isWrongSize 15 = .ok (.iconst 1, 1) := by decide +kernel
theorem dX1_isWrongSize_16 : decode cX1_isWrongSize 16 = .ok (.if_icmp .eq 8, 3) := by decide +kernel
theorem dX1_isWrongSize_19 : decode cX1_isWrongSize 19 = .ok (.iload_n 0, 1) := by decide +kernel
theorem dX1_isWrongSize_20 : decode cX1_isWrongSize 20 = .ok (.iconst 2, 1) := by decide +kernel
theorem dX1_isWrongSize_21 : decode cX1_isWrongSize 21 = .ok (.if_icmp .ne 20, 3) := by decide +kernel
theorem dX1_isWrongSize_24 : decode cX1_isWrongSize 24 = .ok (.iload_n 1, 1) := by decide +kernel
theorem dX1_isWrongSize_25 : decode cX1_isWrongSize 25 = .ok (.iconst 2, 1) := by decide +kernel
theorem dX1_isWrongSize_26 : decode cX1_isWrongSize 26 = .ok (.if_icmp .lt 9, 3) := by decide +kernel
theorem dX1_isWrongSize_29 : decode cX1_isWrongSize 29 = .ok (.iload_n 1, 1) := by decide +kernel
theorem dX1_isWrongSize_30 : decode cX1_isWrongSize 30 = .ok (.bipush 60, 2) := by decide +kernel
theorem dX1_isWrongSize_32 : decode cX1_isWrongSize 32 = .ok (.if_icmp .le 7, 3) := by decide +kernel
theorem dX1_isWrongSize_35 : decode cX1_isWrongSize 35 = .ok (.iconst 1, 1) := by decide +kernel
theorem dX1_isWrongSize_36 : decode cX1_isWrongSize 36 = .ok (.goto 4, 3) := by decide +kernel
theorem dX1_isWrongSize_39 : decode cX1_isWrongSize 39 = .ok (.iconst 0, 1) := by decide +kernel
theorem dX1_isWrongSize_40 : decode cX1_isWrongSize 40 = .ok (.ireturn, 1) := by decide +kernel
theorem dX1_isWrongSize_41 : decode cX1_isWrongSize 41 = .ok (.iload_n 0, 1) := by decide +kernel
theorem dX1_isWrongSize_42 : decode cX1_isWrongSize 42 = .ok (.iconst 3, 1) := by decide +kernel
theorem dX1_isWrongSize_43 : decode cX1_isWrongSize 43 = .ok (.if_icmp .ne 14, 3) := by decide +kernel
theorem dX1_isWrongSize_46 : decode cX1_isWrongSize 46 = .ok (.iload_n 1, 1) := by decide +kernel
theorem dX1_isWrongSize_47 : decode cX1_isWrongSize 47 = .ok (.iconst 2, 1) := by decide +kernel
theorem dX1_isWrongSize_48 : decode cX1_isWrongSize 48 = .ok (.if_icmp .ge 7, 3) := by decide +kernel
theorem dX1_isWrongSize_51 : decode cX1_isWrongSize 51 = .ok (.iconst 1, 1) := by decide +kernel
theorem dX1_isWrongSize_52 : decode cX1_isWrongSize 52 = .ok (.goto 4, 3) := by decide +kernel
theorem dX1_isWrongSize_55 : decode cX1_isWrongSize 55 = .ok (.iconst 0, 1) := by decide +kernel
theorem dX1_isWrongSize_56 : decode cX1_isWrongSize 56 = .ok (.ireturn, 1) := by decide +kernel
theorem dX1_isWrongSize_57 : decode cX1_isWrongSize 57 = .ok (.iload_n 0, 1) := by decide +kernel
theorem dX1_isWrongSize_58 : decode cX1_isWrongSize 58 = .ok (.invokestatic 44, 3) := by decide +kernel
theorem dX1_isWrongSize_61 : decode cX1_isWrongSize 61 = .ok (.ifCond .eq 13, 3) := by decide +kernel
theorem dX1_isWrongSize_64 : decode cX1_isWrongSize 64 = .ok (.iload_n 1, 1) := by decide +kernel
theorem dX1_isWrongSize_65 : decode cX1_isWrongSize 65 = .ok (.bipush 60, 2) := by decide +kernel
theorem dX1_isWrongSize_67 : decode cX1_isWrongSize 67 = .ok (.if_icmp .le 7, 3) := by decide +kernel
theorem dX1_isWrongSize_70 : decode cX1_isWrongSize 70 = .ok (.iconst 1, 1) := by decide +kernel
theorem dX1_isWrongSize_71 : decode cX1_isWrongSize 71 = .ok (.goto 4, 3) := by decide +kernel
theorem dX1_isWrongSize_74 : decode cX1_isWrongSize 74 = .ok (.iconst 0, 1) := by decide +kernel
theorem dX1_isWrongSize_75 : decode cX1_isWrongSize 75 = .ok (.ireturn, 1) := by decide +kernel
set_option maxRecDepth 20000 in
theorem ggX1_takePart_X1_pairAt : GoodIn wsX1_takePart wsX1_pairAt := goodIn_r _ [6] (by decide +kernel) (by decide +kernel)
set_option maxRecDepth 20000 in
theorem gX1_takePart_X1_pairAt : GoodIn wsX1_takePart (va_wsS RX1 25 yX1_pairAt wsX1_pairAt) := goodIn_app (goodIn_of _ (by decide +kernel)) ggX1_takePart_X1_pairAt
set_option maxRecDepth 20000 in
theorem ggX1_takePart_X0_keep : GoodIn wsX1_takePart wsX0_keep := goodIn_r _ [11, 12, 13, 14, 15, 16, 17, 18, 19, 10, 20, 21, 22, 23, 24, 25, 26, 29, 30] (by decide +kernel) (by decide +kernel)
set_option maxRecDepth 20000 in
theorem gX1_takePart_X0_keep : GoodIn wsX1_takePart (wsV RX1 51 RX0 yX0_keep wsX0_keep) := goodIn_app (goodIn_of _ (by decide +kernel)) ggX1_takePart_X0_keep
theorem dX1_takePart_0 : decode cX1_takePart 0 = .ok (.iload_n 1, 1) := by decide +kernel
theorem dX1_takePart_1 : decode cX1_takePart 1 = .ok (.iconst 3, 1) := by decide +kernel
theorem dX1_takePart_2 : decode cX1_takePart 2 = .ok (.if_icmp .ne 15, 3) := by decide +kernel
theorem dX1_takePart_5 : decode cX1_takePart 5 = .ok (.aload_n 0, 1) := by decide +kernel
theorem dX1_takePart_6 : decode cX1_takePart 6 = .ok (.aload_n 2, 1) := by decide +kernel
theorem dX1_takePart_7 : decode cX1_takePart 7 = .ok (.iload_n 3, 1) := by decide +kernel
theorem dX1_takePart_8 : decode cX1_takePart 8 = .ok (.invokestatic 25, 3) := by decide +kernel
theorem dX1_takePart_11 : decode cX1_takePart 11 = .ok (.putfield 18, 3) := by decide +kernel
theorem dX1_takePart_14 : decode cX1_takePart 14 = .ok (.goto 15, 3) := by decide +kernel
theorem dX1_takePart_17 : decode cX1_takePart 17 = .ok (.aload_n 0, 1) := by decide +kernel
theorem dX1_takePart_18 : decode cX1_takePart 18 = .ok (.getfield 12, 3) := by decide +kernel
theorem dX1_takePart_21 : decode cX1_takePart 21 = .ok (.iload_n 1, 1) := by decide +kernel
theorem dX1_takePart_22 : decode cX1_takePart 22 = .ok (.aload_n 2, 1) := by decide +kernel
theorem dX1_takePart_23 : decode cX1_takePart 23 = .ok (.iload_n 3, 1) := by decide +kernel
theorem dX1_takePart_24 : decode cX1_takePart 24 = .ok (.iload 4, 2) := by decide +kernel
theorem dX1_takePart_26 : decode cX1_takePart 26 = .ok (.invokevirtual 51, 3) := by decide +kernel
theorem dX1_takePart_29 : decode cX1_takePart 29 = .ok (.return_, 1) := by decide +kernel
theorem dX1_pairAt_0 : decode cX1_pairAt 0 = .ok (.iload_n 1, 1) := by decide +kernel
theorem dX1_pairAt_1 : decode cX1_pairAt 1 = .ok (.ifCond .lt 11, 3) := by decide +kernel
theorem dX1_pairAt_4 : decode cX1_pairAt 4 = .ok (.iload_n 1, 1) := by decide +kernel
theorem dX1_pairAt_5 : decode cX1_pairAt 5 = .ok (.iconst 1, 1) := by decide +kernel
theorem dX1_pairAt_6 : decode cX1_pairAt 6 = .ok (.iadd, 1) := by decide +kernel
theorem dX1_pairAt_7 : decode cX1_pairAt 7 = .ok (.aload_n 0, 1) := by decide +kernel
theorem dX1_pairAt_8 : decode cX1_pairAt 8 = .ok (.arraylength, 1) := by decide +kernel
theorem dX1_pairAt_9 : decode cX1_pairAt 9 = .ok (.if_icmp .lt 5, 3) := by decide +kernel
theorem dX1_pairAt_12 : decode cX1_pairAt 12 = .ok (.iconst 0, 1) := by decide +kernel
theorem dX1_pairAt_13 : decode cX1_pairAt 13 = .ok (.ireturn, 1) := by decide +kernel
theorem dX1_pairAt_14 : decode cX1_pairAt 14 = .ok (.aload_n 0, 1) := by decide +kernel
theorem dX1_pairAt_15 : decode cX1_pairAt 15 = .ok (.iload_n 1, 1) := by decide +kernel
theorem dX1_pairAt_16 : decode cX1_pairAt 16 = .ok (.baload, 1) := by decide +kernel
theorem dX1_pairAt_17 : decode cX1_pairAt 17 = .ok (.sipush 255, 3) := by decide +kernel
theorem dX1_pairAt_20 : decode cX1_pairAt 20 = .ok (.iand, 1) := by decide +kernel
theorem dX1_pairAt_21 : decode cX1_pairAt 21 = .ok (.bipush 8, 2) := by decide +kernel
theorem dX1_pairAt_23 : decode cX1_pairAt 23 = .ok (.ishl, 1) := by decide +kernel
theorem dX1_pairAt_24 : decode cX1_pairAt 24 = .ok (.aload_n 0, 1) := by decide +kernel
theorem dX1_pairAt_25 : decode cX1_pairAt 25 = .ok (.iload_n 1, 1) := by decide +kernel
theorem dX1_pairAt_26 : decode cX1_pairAt 26 = .ok (.iconst 1, 1) := by decide +kernel
theorem dX1_pairAt_27 : decode cX1_pairAt 27 = .ok (.iadd, 1) := by decide +kernel
theorem dX1_pairAt_28 : decode cX1_pairAt 28 = .ok (.baload, 1) := by decide +kernel
theorem dX1_pairAt_29 : decode cX1_pairAt 29 = .ok (.sipush 255, 3) := by decide +kernel
theorem dX1_pairAt_32 : decode cX1_pairAt 32 = .ok (.iand, 1) := by decide +kernel
theorem dX1_pairAt_33 : decode cX1_pairAt 33 = .ok (.ior, 1) := by decide +kernel
theorem dX1_pairAt_34 : decode cX1_pairAt 34 = .ok (.ireturn, 1) := by decide +kernel
set_option maxRecDepth 20000 in
theorem ggX2_init_X0_init : GoodIn wsX2_init wsX0_init := goodIn_r _ [10, 11, 2, 3, 12, 13, 14, 15, 16, 17, 18, 6, 19, 20, 21, 22, 23, 24, 25] (by decide +kernel) (by decide +kernel)
set_option maxRecDepth 20000 in
theorem gX2_init_X0_init : GoodIn wsX2_init (wsX0_init) := ggX2_init_X0_init
theorem dX2_init_0 : decode cX2_init 0 = .ok (.aload_n 0, 1) := by decide +kernel
theorem dX2_init_1 : decode cX2_init 1 = .ok (.invokespecial 3, 3) := by decide +kernel
theorem dX2_init_4 : decode cX2_init 4 = .ok (.aload_n 0, 1) := by decide +kernel
theorem dX2_init_5 : decode cX2_init 5 = .ok (.new 9, 3) := by decide +kernel
theorem dX2_init_8 : decode cX2_init 8 = .ok (.dup, 1) := by decide +kernel
theorem dX2_init_9 : decode cX2_init 9 = .ok (.invokespecial 11, 3) := by decide +kernel
theorem dX2_init_12 : decode cX2_init 12 = .ok (.putfield 12, 3) := by decide +kernel
theorem dX2_init_15 : decode cX2_init 15 = .ok (.return_, 1) := by decide +kernel
theorem dX2_contents_0 : decode cX2_contents 0 = .ok (.aload_n 0, 1) := by decide +kernel
theorem dX2_contents_1 : decode cX2_contents 1 = .ok (.getfield 12, 3) := by decide +kernel
theorem dX2_contents_4 : decode cX2_contents 4 = .ok (.areturn, 1) := by decide +kernel
theorem dX2_portOf_0 : decode cX2_portOf 0 = .ok (.aload_n 0, 1) := by decide +kernel
theorem dX2_portOf_1 : decode cX2_portOf 1 = .ok (.getfield 18, 3) := by decide +kernel
theorem dX2_portOf_4 : decode cX2_portOf 4 = .ok (.ireturn, 1) := by decide +kernel
theorem dX2_begin_0 : decode cX2_begin 0 = .ok (.aload_n 0, 1) := by decide +kernel
theorem dX2_begin_1 : decode cX2_begin 1 = .ok (.iload_n 1, 1) := by decide +kernel
theorem dX2_begin_2 : decode cX2_begin 2 = .ok (.putfield 18, 3) := by decide +kernel
theorem dX2_begin_5 : decode cX2_begin 5 = .ok (.aload_n 0, 1) := by decide +kernel
theorem dX2_begin_6 : decode cX2_begin 6 = .ok (.iconst 0, 1) := by decide +kernel
theorem dX2_begin_7 : decode cX2_begin 7 = .ok (.putfield 22, 3) := by decide +kernel
theorem dX2_begin_10 : decode cX2_begin 10 = .ok (.return_, 1) := by decide +kernel
theorem dX2_renew_0 : decode cX2_renew 0 = .ok (.aload_n 0, 1) := by decide +kernel
theorem dX2_renew_1 : decode cX2_renew 1 = .ok (.getfield 12, 3) := by decide +kernel
theorem dX2_renew_4 : decode cX2_renew 4 = .ok (.astore_n 3, 1) := by decide +kernel
theorem dX2_renew_5 : decode cX2_renew 5 = .ok (.aload_n 0, 1) := by decide +kernel
theorem dX2_renew_6 : decode cX2_renew 6 = .ok (.aload_n 1, 1) := by decide +kernel
theorem dX2_renew_7 : decode cX2_renew 7 = .ok (.putfield 12, 3) := by decide +kernel
theorem dX2_renew_10 : decode cX2_renew 10 = .ok (.aload_n 0, 1) := by decide +kernel
theorem dX2_renew_11 : decode cX2_renew 11 = .ok (.iload_n 2, 1) := by decide +kernel
theorem dX2_renew_12 : decode cX2_renew 12 = .ok (.putfield 25, 3) := by decide +kernel
theorem dX2_renew_15 : decode cX2_renew 15 = .ok (.aload_n 0, 1) := by decide +kernel
theorem dX2_renew_16 : decode cX2_renew 16 = .ok (.dup, 1) := by decide +kernel
theorem dX2_renew_17 : decode cX2_renew 17 = .ok (.getfield 22, 3) := by decide +kernel
theorem dX2_renew_20 : decode cX2_renew 20 = .ok (.iconst 1, 1) := by decide +kernel
theorem dX2_renew_21 : decode cX2_renew 21 = .ok (.iadd, 1) := by decide +kernel
theorem dX2_renew_22 : decode cX2_renew 22 = .ok (.putfield 22, 3) := by decide +kernel
theorem dX2_renew_25 : decode cX2_renew 25 = .ok (.aload_n 3, 1) := by decide +kernel
theorem dX2_renew_26 : decode cX2_renew 26 = .ok (.areturn, 1) := by decide +kernel
theorem dX2_passTick_0 : decode cX2_passTick 0 = .ok (.aload_n 0, 1) := by decide +kernel
theorem dX2_passTick_1 : decode cX2_passTick 1 = .ok (.dup, 1) := by decide +kernel
theorem dX2_passTick_2 : decode cX2_passTick 2 = .ok (.getfield 25, 3) := by decide +kernel
theorem dX2_passTick_5 : decode cX2_passTick 5 = .ok (.iconst 1, 1) := by decide +kernel
theorem dX2_passTick_6 : decode cX2_passTick 6 = .ok (.isub, 1) := by decide +kernel
theorem dX2_passTick_7 : decode cX2_passTick 7 = .ok (.putfield 25, 3) := by decide +kernel
theorem dX2_passTick_10 : decode cX2_passTick 10 = .ok (.aload_n 0, 1) := by decide +kernel
theorem dX2_passTick_11 : decode cX2_passTick 11 = .ok (.getfield 25, 3) := by decide +kernel
theorem dX2_passTick_14 : decode cX2_passTick 14 = .ok (.ifCond .gt 7, 3) := by decide +kernel
theorem dX2_passTick_17 : decode cX2_passTick 17 = .ok (.iconst 1, 1) := by decide +kernel
theorem dX2_passTick_18 : decode cX2_passTick 18 = .ok (.goto 4, 3) := by decide +kernel
theorem dX2_passTick_21 : decode cX2_passTick 21 = .ok (.iconst 0, 1) := by decide +kernel
theorem dX2_passTick_22 : decode cX2_passTick 22 = .ok (.ireturn, 1) := by decide +kernel
set_option maxRecDepth 20000 in
theorem ggX2_tellAbout_X0_typeBits : GoodIn wsX2_tellAbout wsX0_typeBits := goodIn_r _ [9, 10, 11, 12, 8, 13, 14, 15, 16, 17, 18, 23, 24] (by decide +kernel) (by decide +kernel)
set_option maxRecDepth 20000 in
theorem gX2_tellAbout_X0_typeBits : GoodIn wsX2_tellAbout (wsV RX2 28 RX0 yX0_typeBits wsX0_typeBits) := goodIn_app (goodIn_of _ (by decide +kernel)) ggX2_tellAbout_X0_typeBits
theorem dX2_tellAbout_0 : decode cX2_tellAbout 0 = .ok (.iload_n 1, 1) := by decide +kernel
theorem dX2_tellAbout_1 : decode cX2_tellAbout 1 = .ok (.tableswitch 54 0 3 #[31, 36, 41, 46], 31) := by decide +kernel
theorem dX2_tellAbout_32 : decode cX2_tellAbout 32 = .ok (.aload_n 0, 1) := by decide +kernel
theorem dX2_tellAbout_33 : decode cX2_tellAbout 33 = .ok (.getfield 18, 3) := by decide +kernel
theorem dX2_tellAbout_36 : decode cX2_tellAbout 36 = .ok (.ireturn, 1) := by decide +kernel
theorem dX2_tellAbout_37 : decode cX2_tellAbout 37 = .ok (.aload_n 0, 1) := by decide +kernel
theorem dX2_tellAbout_38 : decode cX2_tellAbout 38 = .ok (.getfield 25, 3) := by decide +kernel
theorem dX2_tellAbout_41 : decode cX2_tellAbout 41 = .ok (.ireturn, 1) := by decide +kernel
theorem dX2_tellAbout_42 : decode cX2_tellAbout 42 = .ok (.aload_n 0, 1) := by decide +kernel
theorem dX2_tellAbout_43 : decode cX2_tellAbout 43 = .ok (.getfield 22, 3) := by decide +kernel
theorem dX2_tellAbout_46 : decode cX2_tellAbout 46 = .ok (.ireturn, 1) := by decide +kernel
theorem dX2_tellAbout_47 : decode cX2_tellAbout 47 = .ok (.aload_n 0, 1) := by decide +kernel
theorem dX2_tellAbout_48 : decode cX2_tellAbout 48 = .ok (.getfield 12, 3) := by decide +kernel
theorem dX2_tellAbout_51 : decode cX2_tellAbout 51 = .ok (.invokevirtual 28, 3) := by decide +kernel
theorem dX2_tellAbout_54 : decode cX2_tellAbout 54 = .ok (.ireturn, 1) := by decide +kernel
theorem dX2_tellAbout_55 : decode cX2_tellAbout 55 = .ok (.iconst (-1), 1) := by decide +kernel
theorem dX2_tellAbout_56 : decode cX2_tellAbout 56 = .ok (.ireturn, 1) := by decide +kernel
set_option maxRecDepth 20000 in
theorem ggX3_init_X2_init : GoodIn wsX3_init wsX2_init := goodIn_r _ [9, 10, 2, 3, 11, 12, 13, 14, 15, 16, 17, 18, 19, 20, 21, 22, 23, 24, 25, 26, 27, 28, 29, 30, 37, 38, 33, 34, 35, 36] (by decide +kernel) (by decide +kernel)
set_option maxRecDepth 20000 in
theorem gX3_init_X2_init_n17 : GoodIn wsX3_init (wsX2_init) := ggX3_init_X2_init
theorem dX3_init_0 : decode cX3_init 0 = .ok (.aload_n 0, 1) := by decide +kernel
theorem dX3_init_1 : decode cX3_init 1 = .ok (.invokespecial 3, 3) := by decide +kernel
theorem dX3_init_4 : decode cX3_init 4 = .ok (.aload_n 0, 1) := by decide +kernel
theorem dX3_init_5 : decode cX3_init 5 = .ok (.bipush 12, 2) := by decide +kernel
theorem dX3_init_7 : decode cX3_init 7 = .ok (.anewarray 9, 3) := by decide +kernel
theorem dX3_init_10 : decode cX3_init 10 = .ok (.putfield 11, 3) := by decide +kernel
theorem dX3_init_13 : decode cX3_init 13 = .ok (.iconst 0, 1) := by decide +kernel
theorem dX3_init_14 : decode cX3_init 14 = .ok (.istore_n 1, 1) := by decide +kernel
theorem dX3_init_15 : decode cX3_init 15 = .ok (.iload_n 1, 1) := by decide +kernel
theorem dX3_init_16 : decode cX3_init 16 = .ok (.bipush 12, 2) := by decide +kernel
theorem dX3_init_18 : decode cX3_init 18 = .ok (.if_icmp .ge 22, 3) := by decide +kernel
theorem dX3_init_21 : decode cX3_init 21 = .ok (.aload_n 0, 1) := by decide +kernel
theorem dX3_init_22 : decode cX3_init 22 = .ok (.getfield 11, 3) := by decide +kernel
theorem dX3_init_25 : decode cX3_init 25 = .ok (.iload_n 1, 1) := by decide +kernel
theorem dX3_init_26 : decode cX3_init 26 = .ok (.new 9, 3) := by decide +kernel
theorem dX3_init_29 : decode cX3_init 29 = .ok (.dup, 1) := by decide +kernel
theorem dX3_init_30 : decode cX3_init 30 = .ok (.invokespecial 17, 3) := by decide +kernel
theorem dX3_init_33 : decode cX3_init 33 = .ok (.aastore, 1) := by decide +kernel
theorem dX3_init_34 : decode cX3_init 34 = .ok (.iinc 1 1, 3) := by decide +kernel
theorem dX3_init_37 : decode cX3_init 37 = .ok (.goto (-22), 3) := by decide +kernel
theorem dX3_init_40 : decode cX3_init 40 = .ok (.return_, 1) := by decide +kernel
theorem dX3_size_0 : decode cX3_size 0 = .ok (.aload_n 0, 1) := by decide +kernel
theorem dX3_size_1 : decode cX3_size 1 = .ok (.getfield 18, 3) := by decide +kernel
theorem dX3_size_4 : decode cX3_size 4 = .ok (.ireturn, 1) := by decide +kernel
theorem dX3_has_0 : decode cX3_has 0 = .ok (.iload_n 1, 1) := by decide +kernel
theorem dX3_has_1 : decode cX3_has 1 = .ok (.ifCond .lt 15, 3) := by decide +kernel
theorem dX3_has_4 : decode cX3_has 4 = .ok (.iload_n 1, 1) := by decide +kernel
theorem dX3_has_5 : decode cX3_has 5 = .ok (.aload_n 0, 1) := by decide +kernel
theorem dX3_has_6 : decode cX3_has 6 = .ok (.getfield 18, 3) := by decide +kernel
theorem dX3_has_9 : decode cX3_has 9 = .ok (.if_icmp .ge 7, 3) := by decide +kernel
theorem dX3_has_12 : decode cX3_has 12 = .ok (.iconst 1, 1) := by decide +kernel
theorem dX3_has_13 : decode cX3_has 13 = .ok (.goto 4, 3) := by decide +kernel
theorem dX3_has_16 : decode cX3_has 16 = .ok (.iconst 0, 1) := by decide +kernel
theorem dX3_has_17 : decode cX3_has 17 = .ok (.ireturn, 1) := by decide +kernel
theorem dX3_at_0 : decode cX3_at 0 = .ok (.aload_n 0, 1) := by decide +kernel
theorem dX3_at_1 : decode cX3_at 1 = .ok (.getfield 11, 3) := by decide +kernel
theorem dX3_at_4 : decode cX3_at 4 = .ok (.iload_n 1, 1) := by decide +kernel
theorem dX3_at_5 : decode cX3_at 5 = .ok (.aaload, 1) := by decide +kernel
theorem dX3_at_6 : decode cX3_at 6 = .ok (.areturn, 1) := by decide +kernel
set_option maxRecDepth 20000 in
theorem ggX3_sizeAt_X2_portOf : GoodIn wsX3_sizeAt wsX2_portOf := goodIn_r _ [7, 8, 11, 12, 13, 14] (by decide +kernel) (by decide +kernel)
set_option maxRecDepth 20000 in
theorem gX3_sizeAt_X2_portOf : GoodIn wsX3_sizeAt (wsV RX3 22 RX2 yX2_portOf wsX2_portOf) := goodIn_app (goodIn_of _ (by decide +kernel)) ggX3_sizeAt_X2_portOf
theorem dX3_sizeAt_0 : decode cX3_sizeAt 0 = .ok (.iconst 0, 1) := by decide +kernel
theorem dX3_sizeAt_1 : decode cX3_sizeAt 1 = .ok (.istore_n 2, 1) := by decide +kernel
theorem dX3_sizeAt_2 : decode cX3_sizeAt 2 = .ok (.iconst 0, 1) := by decide +kernel
theorem dX3_sizeAt_3 : decode cX3_sizeAt 3 = .ok (.istore_n 3, 1) := by decide +kernel
theorem dX3_sizeAt_4 : decode cX3_sizeAt 4 = .ok (.iload_n 3, 1) := by decide +kernel
theorem dX3_sizeAt_5 : decode cX3_sizeAt 5 = .ok (.aload_n 0, 1) := by decide +kernel
theorem dX3_sizeAt_6 : decode cX3_sizeAt 6 = .ok (.getfield 18, 3) := by decide +kernel
theorem dX3_sizeAt_9 : decode cX3_sizeAt 9 = .ok (.if_icmp .ge 25, 3) := by decide +kernel
theorem dX3_sizeAt_12 : decode cX3_sizeAt 12 = .ok (.aload_n 0, 1) := by decide +kernel
theorem dX3_sizeAt_13 : decode cX3_sizeAt 13 = .ok (.getfield 11, 3) := by decide +kernel
theorem dX3_sizeAt_16 : decode cX3_sizeAt 16 = .ok (.iload_n 3, 1) := by decide +kernel
theorem dX3_sizeAt_17 : decode cX3_sizeAt 17 = .ok (.aaload, 1) := by decide +kernel
theorem dX3_sizeAt_18 : decode cX3_sizeAt 18 = .ok (.invokevirtual 22, 3) := by decide +kernel
theorem dX3_sizeAt_21 : decode cX3_sizeAt 21 = .ok (.iload_n 1, 1) := by decide +kernel
theorem dX3_sizeAt_22 : decode cX3_sizeAt 22 = .ok (.if_icmp .ne 6, 3) := by decide +kernel
theorem dX3_sizeAt_25 : decode cX3_sizeAt 25 = .ok (.iinc 2 1, 3) := by decide +kernel
theorem dX3_sizeAt_28 : decode cX3_sizeAt 28 = .ok (.iinc 3 1, 3) := by decide +kernel
theorem dX3_sizeAt_31 : decode cX3_sizeAt 31 = .ok (.goto (-27), 3) := by decide +kernel
theorem dX3_sizeAt_34 : decode cX3_sizeAt 34 = .ok (.iload_n 2, 1) := by decide +kernel
theorem dX3_sizeAt_35 : decode cX3_sizeAt 35 = .ok (.ireturn, 1) := by decide +kernel
set_option maxRecDepth 20000 in
theorem ggX3_find_X2_portOf : GoodIn wsX3_find wsX2_portOf := goodIn_r _ [7, 8, 34, 35, 36, 37] (by decide +kernel) (by decide +kernel)
set_option maxRecDepth 20000 in
theorem gX3_find_X2_portOf : GoodIn wsX3_find (wsV RX3 22 RX2 yX2_portOf wsX2_portOf) := goodIn_app (goodIn_of _ (by decide +kernel)) ggX3_find_X2_portOf
set_option maxRecDepth 20000 in
theorem ggX3_find_X2_contents : GoodIn wsX3_find wsX2_contents := goodIn_r _ [12, 13, 34, 35, 36, 37] (by decide +kernel) (by decide +kernel)
set_option maxRecDepth 20000 in
theorem gX3_find_X2_contents : GoodIn wsX3_find (wsV RX3 26 RX2 yX2_contents wsX2_contents) := goodIn_app (goodIn_of _ (by decide +kernel)) ggX3_find_X2_contents
set_option maxRecDepth 20000 in
theorem ggX3_find_X0_isSameStation : GoodIn wsX3_find wsX0_isSameStation := goodIn_r _ [18, 19, 20, 21, 17, 22, 23, 24, 25, 26, 27, 28, 29, 30, 31, 38, 39] (by decide +kernel) (by decide +kernel)
set_option maxRecDepth 20000 in
theorem gX3_find_X0_isSameStation : GoodIn wsX3_find (wsV RX3 30 RX0 yX0_isSameStation wsX0_isSameStation) := goodIn_app (goodIn_of _ (by decide +kernel)) ggX3_find_X0_isSameStation
theorem dX3_find_0 : decode cX3_find 0 = .ok (.iconst 0, 1) := by decide +kernel
theorem dX3_find_1 : decode cX3_find 1 = .ok (.istore_n 3, 1) := by decide +kernel
theorem dX3_find_2 : decode cX3_find 2 = .ok (.iload_n 3, 1) := by decide +kernel
theorem dX3_find_3 : decode cX3_find 3 = .ok (.aload_n 0, 1) := by decide +kernel
theorem dX3_find_4 : decode cX3_find 4 = .ok (.getfield 18, 3) := by decide +kernel
theorem dX3_find_7 : decode cX3_find 7 = .ok (.if_icmp .ge 40, 3) := by decide +kernel
theorem dX3_find_10 : decode cX3_find 10 = .ok (.aload_n 0, 1) := by decide +kernel
theorem dX3_find_11 : decode cX3_find 11 = .ok (.getfield 11, 3) := by decide +kernel
theorem dX3_find_14 : decode cX3_find 14 = .ok (.iload_n 3, 1) := by decide +kernel
theorem dX3_find_15 : decode cX3_find 15 = .ok (.aaload, 1) := by decide +kernel
theorem dX3_find_16 : decode cX3_find 16 = .ok (.invokevirtual 22, 3) := by decide +kernel
theorem dX3_find_19 : decode cX3_find 19 = .ok (.iload_n 1, 1) := by decide +kernel
theorem dX3_find_20 : decode cX3_find 20 = .ok (.if_icmp .ne 21, 3) := by decide +kernel
theorem dX3_find_23 : decode cX3_find 23 = .ok (.aload_n 0, 1) := by decide +kernel
theorem dX3_find_24 : decode cX3_find 24 = .ok (.getfield 11, 3) := by decide +kernel
theorem dX3_find_27 : decode cX3_find 27 = .ok (.iload_n 3, 1) := by decide +kernel
theorem dX3_find_28 : decode cX3_find 28 = .ok (.aaload, 1) := by decide +kernel
theorem dX3_find_29 : decode cX3_find 29 = .ok (.invokevirtual 26, 3) := by decide +kernel
theorem dX3_find_32 : decode cX3_find 32 = .ok (.aload_n 2, 1) := by decide +kernel
theorem dX3_find_33 : decode cX3_find 33 = .ok (.invokevirtual 30, 3) := by decide +kernel
theorem dX3_find_36 : decode cX3_find 36 = .ok (.ifCond .eq 5, 3) := by decide +kernel
theorem dX3_find_39 : decode cX3_find 39 = .ok (.iload_n 3, 1) := by decide +kernel
theorem dX3_find_40 : decode cX3_find 40 = .ok (.ireturn, 1) := by decide +kernel
theorem dX3_find_41 : decode cX3_find 41 = .ok (.iinc 3 1, 3) := by decide +kernel
theorem dX3_find_44 : decode cX3_find 44 = .ok (.goto (-42), 3) := by decide +kernel
theorem dX3_find_47 : decode cX3_find 47 = .ok (.iconst (-1), 1) := by decide +kernel
theorem dX3_find_48 : decode cX3_find 48 = .ok (.ireturn, 1) := by decide +kernel
set_option maxRecDepth 20000 in
theorem ggX3_add_X2_begin : GoodIn wsX3_add wsX2_begin := goodIn_r _ [7, 8, 9, 12, 13, 14, 15] (by decide +kernel) (by decide +kernel)
set_option maxRecDepth 20000 in
theorem gX3_add_X2_begin : GoodIn wsX3_add (wsV RX3 36 RX2 yX2_begin wsX2_begin) := goodIn_app (goodIn_of _ (by decide +kernel)) ggX3_add_X2_begin
theorem dX3_add_0 : decode cX3_add 0 = .ok (.aload_n 0, 1) := by decide +kernel
theorem dX3_add_1 : decode cX3_add 1 = .ok (.getfield 18, 3) := by decide +kernel
theorem dX3_add_4 : decode cX3_add 4 = .ok (.bipush 12, 2) := by decide +kernel
theorem dX3_add_6 : decode cX3_add 6 = .ok (.if_icmp .lt 5, 3) := by decide +kernel
theorem dX3_add_9 : decode cX3_add 9 = .ok (.iconst (-1), 1) := by decide +kernel
theorem dX3_add_10 : decode cX3_add 10 = .ok (.ireturn, 1) := by decide +kernel
theorem dX3_add_11 : decode cX3_add 11 = .ok (.aload_n 0, 1) := by decide +kernel
theorem dX3_add_12 : decode cX3_add 12 = .ok (.getfield 18, 3) := by decide +kernel
theorem dX3_add_15 : decode cX3_add 15 = .ok (.istore_n 2, 1) := by decide +kernel
theorem dX3_add_16 : decode cX3_add 16 = .ok (.aload_n 0, 1) := by decide +kernel
theorem dX3_add_17 : decode cX3_add 17 = .ok (.getfield 11, 3) := by decide +kernel
theorem dX3_add_20 : decode cX3_add 20 = .ok (.iload_n 2, 1) := by decide +kernel
theorem dX3_add_21 : decode cX3_add 21 = .ok (.aaload, 1) := by decide +kernel
theorem dX3_add_22 : decode cX3_add 22 = .ok (.iload_n 1, 1) := by decide +kernel
theorem dX3_add_23 : decode cX3_add 23 = .ok (.invokevirtual 36, 3) := by decide +kernel
theorem dX3_add_26 : decode cX3_add 26 = .ok (.aload_n 0, 1) := by decide +kernel
theorem dX3_add_27 : decode cX3_add 27 = .ok (.dup, 1) := by decide +kernel
theorem dX3_add_28 : decode cX3_add 28 = .ok (.getfield 18, 3) := by decide +kernel
theorem dX3_add_31 : decode cX3_add 31 = .ok (.iconst 1, 1) := by decide +kernel
theorem dX3_add_32 : decode cX3_add 32 = .ok (.iadd, 1) := by decide +kernel
theorem dX3_add_33 : decode cX3_add 33 = .ok (.putfield 18, 3) := by decide +kernel
theorem dX3_add_36 : decode cX3_add 36 = .ok (.iload_n 2, 1) := by decide +kernel
theorem dX3_add_37 : decode cX3_add 37 = .ok (.ireturn, 1) := by decide +kernel
set_option maxRecDepth 20000 in
theorem ggX3_forget_X3_has : GoodIn wsX3_forget wsX3_has := goodIn_r _ [7, 2, 8, 9] (by decide +kernel) (by decide +kernel)
set_option maxRecDepth 20000 in
theorem gX3_forget_X3_has : GoodIn wsX3_forget (wsV RX3 40 RX3 yX3_has wsX3_has) := goodIn_app (goodIn_of _ (by decide +kernel)) ggX3_forget_X3_has
theorem dX3_forget_0 : decode cX3_forget 0 = .ok (.aload_n 0, 1) := by decide +kernel
theorem dX3_forget_1 : decode cX3_forget 1 = .ok (.iload_n 1, 1) := by decide +kernel
theorem dX3_forget_2 : decode cX3_forget 2 = .ok (.invokevirtual 40, 3) := by decide +kernel
theorem dX3_forget_5 : decode cX3_forget 5 = .ok (.ifCond .ne 4, 3) := by decide +kernel
theorem dX3_forget_8 : decode cX3_forget 8 = .ok (.return_, 1) := by decide +kernel
theorem dX3_forget_9 : decode cX3_forget 9 = .ok (.aload_n 0, 1) := by decide +kernel
theorem dX3_forget_10 : decode cX3_forget 10 = .ok (.getfield 11, 3) := by decide +kernel
theorem dX3_forget_13 : decode cX3_forget 13 = .ok (.iload_n 1, 1) := by decide +kernel
theorem dX3_forget_14 : decode cX3_forget 14 = .ok (.aaload, 1) := by decide +kernel
theorem dX3_forget_15 : decode cX3_forget 15 = .ok (.astore_n 2, 1) := by decide +kernel
theorem dX3_forget_16 : decode cX3_forget 16 = .ok (.aload_n 0, 1) := by decide +kernel
theorem dX3_forget_17 : decode cX3_forget 17 = .ok (.dup, 1) := by decide +kernel
theorem dX3_forget_18 : decode cX3_forget 18 = .ok (.getfield 18, 3) := by decide +kernel
theorem dX3_forget_21 : decode cX3_forget 21 = .ok (.iconst 1, 1) := by decide +kernel
theorem dX3_forget_22 : decode cX3_forget 22 = .ok (.isub, 1) := by decide +kernel
theorem dX3_forget_23 : decode cX3_forget 23 = .ok (.putfield 18, 3) := by decide +kernel
theorem dX3_forget_26 : decode cX3_forget 26 = .ok (.iload_n 1, 1) := by decide +kernel
theorem dX3_forget_27 : decode cX3_forget 27 = .ok (.istore_n 3, 1) := by decide +kernel
theorem dX3_forget_28 : decode cX3_forget 28 = .ok (.iload_n 3, 1) := by decide +kernel
theorem dX3_forget_29 : decode cX3_forget 29 = .ok (.aload_n 0, 1) := by decide +kernel
theorem dX3_forget_30 : decode cX3_forget 30 = .ok (.getfield 18, 3) := by decide +kernel
theorem dX3_forget_33 : decode cX3_forget 33 = .ok (.if_icmp .ge 23, 3) := by decide +kernel
theorem dX3_forget_36 : decode cX3_forget 36 = .ok (.aload_n 0, 1) := by decide +kernel
theorem dX3_forget_37 : decode cX3_forget 37 = .ok (.getfield 11, 3) := by decide +kernel
theorem dX3_forget_40 : decode cX3_forget 40 = .ok (.iload_n 3, 1) := by decide +kernel
theorem dX3_forget_41 : decode cX3_forget 41 = .ok (.aload_n 0, 1) := by decide +kernel
theorem dX3_forget_42 : decode cX3_forget 42 = .ok (.getfield 11, 3) := by decide +kernel
theorem dX3_forget_45 : decode cX3_forget 45 = .ok (.iload_n 3, 1) := by decide +kernel
theorem dX3_forget_46 : decode cX3_forget 46 = .ok (.iconst 1, 1) := by decide +kernel
theorem dX3_forget_47 : decode cX3_forget 47 = .ok (.iadd, 1) := by decide +kernel
theorem dX3_forget_48 : decode cX3_forget 48 = .ok (.aaload, 1) := by decide +kernel
theorem dX3_forget_49 : decode cX3_forget 49 = .ok (.aastore, 1) := by decide +kernel
theorem dX3_forget_50 : decode cX3_forget 50 = .ok (.iinc 3 1, 3) := by decide +kernel
theorem dX3_forget_53 : decode cX3_forget 53 = .ok (.goto (-25), 3) := by decide +kernel
theorem dX3_forget_56 : decode cX3_forget 56 = .ok (.aload_n 0, 1) := by decide +kernel
theorem dX3_forget_57 : decode cX3_forget 57 = .ok (.getfield 11, 3) := by decide +kernel
theorem dX3_forget_60 : decode cX3_forget 60 = .ok (.aload_n 0, 1) := by decide +kernel
theorem dX3_forget_61 : decode cX3_forget 61 = .ok (.getfield 18, 3) := by decide +kernel
theorem dX3_forget_64 : decode cX3_forget 64 = .ok (.aload_n 2, 1) := by decide +kernel
theorem dX3_forget_65 : decode cX3_forget 65 = .ok (.aastore, 1) := by decide +kernel
theorem dX3_forget_66 : decode cX3_forget 66 = .ok (.return_, 1) := by decide +kernel
set_option maxRecDepth 20000 in
theorem ggX3_forgetAllAt_X2_portOf : GoodIn wsX3_forgetAllAt wsX2_portOf := goodIn_r _ [7, 8, 20, 21, 22, 23] (by decide +kernel) (by decide +kernel)
set_option maxRecDepth 20000 in
theorem gX3_forgetAllAt_X2_portOf : GoodIn wsX3_forgetAllAt (wsV RX3 22 RX2 yX2_portOf wsX2_portOf) := goodIn_app (goodIn_of _ (by decide +kernel)) ggX3_forgetAllAt_X2_portOf
set_option maxRecDepth 20000 in
theorem ggX3_forgetAllAt_X3_forget : GoodIn wsX3_forgetAllAt wsX3_forget := goodIn_r _ [13, 2, 1, 14, 15, 16, 12, 17, 18, 19] (by decide +kernel) (by decide +kernel)
set_option maxRecDepth 20000 in
theorem gX3_forgetAllAt_X3_forget : GoodIn wsX3_forgetAllAt (wsV RX3 44 RX3 yX3_forget wsX3_forget) := goodIn_app (goodIn_of _ (by decide +kernel)) ggX3_forgetAllAt_X3_forget
theorem dX3_forgetAllAt_0 : decode cX3_forgetAllAt 0 = .ok (.aload_n 0, 1) := by decide +kernel
theorem dX3_forgetAllAt_1 : decode cX3_forgetAllAt 1 = .ok (.getfield 18, 3) := by decide +kernel
theorem dX3_forgetAllAt_4 : decode cX3_forgetAllAt 4 = .ok (.iconst 1, 1) := by decide +kernel
theorem dX3_forgetAllAt_5 : decode cX3_forgetAllAt 5 = .ok (.isub, 1) := by decide +kernel
theorem dX3_forgetAllAt_6 : decode cX3_forgetAllAt 6 = .ok (.istore_n 2, 1) := by decide +kernel
theorem dX3_forgetAllAt_7 : decode cX3_forgetAllAt 7 = .ok (.iload_n 2, 1) := by decide +kernel
theorem dX3_forgetAllAt_8 : decode cX3_forgetAllAt 8 = .ok (.ifCond .lt 27, 3) := by decide +kernel
theorem dX3_forgetAllAt_11 : decode cX3_forgetAllAt 11 = .ok (.aload_n 0, 1) := by decide +kernel
theorem dX3_forgetAllAt_12 : decode cX3_forgetAllAt 12 = .ok (.getfield 11, 3) := by decide +kernel
theorem dX3_forgetAllAt_15 : decode cX3_forgetAllAt 15 = .ok (.iload_n 2, 1) := by decide +kernel
theorem dX3_forgetAllAt_16 : decode cX3_forgetAllAt 16 = .ok (.aaload, 1) := by decide +kernel
theorem dX3_forgetAllAt_17 : decode cX3_forgetAllAt 17 = .ok (.invokevirtual 22, 3) := by decide +kernel
theorem dX3_forgetAllAt_20 : decode cX3_forgetAllAt 20 = .ok (.iload_n 1, 1) := by decide +kernel
theorem dX3_forgetAllAt_21 : decode cX3_forgetAllAt 21 = .ok (.if_icmp .ne 8, 3) := by decide +kernel
theorem dX3_forgetAllAt_24 : decode cX3_forgetAllAt 24 = .ok (.aload_n 0, 1) := by decide +kernel
theorem dX3_forgetAllAt_25 : decode cX3_forgetAllAt 25 = .ok (.iload_n 2, 1) := by decide +kernel
theorem dX3_forgetAllAt_26 : decode cX3_forgetAllAt 26 = .ok (.invokevirtual 44, 3) := by decide +kernel
theorem dX3_forgetAllAt_29 : decode cX3_forgetAllAt 29 = .ok (.iinc 2 (-1), 3) := by decide +kernel
theorem dX3_forgetAllAt_32 : decode cX3_forgetAllAt 32 = .ok (.goto (-25), 3) := by decide +kernel
theorem dX3_forgetAllAt_35 : decode cX3_forgetAllAt 35 = .ok (.return_, 1) := by decide +kernel
set_option maxRecDepth 20000 in
theorem ggX3_passTick_X2_passTick : GoodIn wsX3_passTick wsX2_passTick := goodIn_r _ [7, 8, 20, 21, 22, 23] (by decide +kernel) (by decide +kernel)
set_option maxRecDepth 20000 in
theorem gX3_passTick_X2_passTick : GoodIn wsX3_passTick (wsV RX3 47 RX2 yX2_passTick wsX2_passTick) := goodIn_app (goodIn_of _ (by decide +kernel)) ggX3_passTick_X2_passTick
set_option maxRecDepth 20000 in
theorem ggX3_passTick_X3_forget : GoodIn wsX3_passTick wsX3_forget := goodIn_r _ [13, 2, 1, 14, 15, 16, 12, 17, 18, 19] (by decide +kernel) (by decide +kernel)
set_option maxRecDepth 20000 in
theorem gX3_passTick_X3_forget : GoodIn wsX3_passTick (wsV RX3 44 RX3 yX3_forget wsX3_forget) := goodIn_app (goodIn_of _ (by decide +kernel)) ggX3_passTick_X3_forget
theorem dX3_passTick_0 : decode cX3_passTick 0 = .ok (.aload_n 0, 1) := by decide +kernel
theorem dX3_passTick_1 : decode cX3_passTick 1 = .ok (.getfield 18, 3) := by decide +kernel
theorem dX3_passTick_4 : decode cX3_passTick 4 = .ok (.iconst 1, 1) := by decide +kernel
theorem dX3_passTick_5 : decode cX3_passTick 5 = .ok (.isub, 1) := by decide +kernel
theorem dX3_passTick_6 : decode cX3_passTick 6 = .ok (.istore_n 1, 1) := by decide +kernel
theorem dX3_passTick_7 : decode cX3_passTick 7 = .ok (.iload_n 1, 1) := by decide +kernel
theorem dX3_passTick_8 : decode cX3_passTick 8 = .ok (.ifCond .lt 26, 3) := by decide +kernel
theorem dX3_passTick_11 : decode cX3_passTick 11 = .ok (.aload_n 0, 1) := by decide +kernel
theorem dX3_passTick_12 : decode cX3_passTick 12 = .ok (.getfield 11, 3) := by decide +kernel
theorem dX3_passTick_15 : decode cX3_passTick 15 = .ok (.iload_n 1, 1) := by decide +kernel
theorem dX3_passTick_16 : decode cX3_passTick 16 = .ok (.aaload, 1) := by decide +kernel
theorem dX3_passTick_17 : decode cX3_passTick 17 = .ok (.invokevirtual 47, 3) := by decide +kernel
theorem dX3_passTick_20 : decode cX3_passTick 20 = .ok (.ifCond .eq 8, 3) := by decide +kernel
theorem dX3_passTick_23 : decode cX3_passTick 23 = .ok (.aload_n 0, 1) := by decide +kernel
theorem dX3_passTick_24 : decode cX3_passTick 24 = .ok (.iload_n 1, 1) := by decide +kernel
theorem dX3_passTick_25 : decode cX3_passTick 25 = .ok (.invokevirtual 44, 3) := by decide +kernel
theorem dX3_passTick_28 : decode cX3_passTick 28 = .ok (.iinc 1 (-1), 3) := by decide +kernel
theorem dX3_passTick_31 : decode cX3_passTick 31 = .ok (.goto (-24), 3) := by decide +kernel
theorem dX3_passTick_34 : decode cX3_passTick 34 = .ok (.return_, 1) := by decide +kernel
theorem dX4_init_0 : decode cX4_init 0 = .ok (.aload_n 0, 1) := by decide +kernel
theorem dX4_init_1 : decode cX4_init 1 = .ok (.invokespecial 3, 3) := by decide +kernel
theorem dX4_init_4 : decode cX4_init 4 = .ok (.return_, 1) := by decide +kernel
theorem dX4_isUp_0 : decode cX4_isUp 0 = .ok (.aload_n 0, 1) := by decide +kernel
theorem dX4_isUp_1 : decode cX4_isUp 1 = .ok (.getfield 9, 3) := by decide +kernel
theorem dX4_isUp_4 : decode cX4_isUp 4 = .ok (.ireturn, 1) := by decide +kernel
theorem dX4_goUp_0 : decode cX4_goUp 0 = .ok (.aload_n 0, 1) := by decide +kernel
theorem dX4_goUp_1 : decode cX4_goUp 1 = .ok (.iconst 1, 1) := by decide +kernel
theorem dX4_goUp_2 : decode cX4_goUp 2 = .ok (.putfield 9, 3) := by decide +kernel
theorem dX4_goUp_5 : decode cX4_goUp 5 = .ok (.aload_n 0, 1) := by decide +kernel
theorem dX4_goUp_6 : decode cX4_goUp 6 = .ok (.iload_n 1, 1) := by decide +kernel
theorem dX4_goUp_7 : decode cX4_goUp 7 = .ok (.putfield 15, 3) := by decide +kernel
theorem dX4_goUp_10 : decode cX4_goUp 10 = .ok (.aload_n 0, 1) := by decide +kernel
theorem dX4_goUp_11 : decode cX4_goUp 11 = .ok (.iconst 1, 1) := by decide +kernel
theorem dX4_goUp_12 : decode cX4_goUp 12 = .ok (.putfield 19, 3) := by decide +kernel
theorem dX4_goUp_15 : decode cX4_goUp 15 = .ok (.return_, 1) := by decide +kernel
theorem dX4_goDown_0 : decode cX4_goDown 0 = .ok (.aload_n 0, 1) := by decide +kernel
theorem dX4_goDown_1 : decode cX4_goDown 1 = .ok (.iconst 0, 1) := by decide +kernel
theorem dX4_goDown_2 : decode cX4_goDown 2 = .ok (.putfield 9, 3) := by decide +kernel
theorem dX4_goDown_5 : decode cX4_goDown 5 = .ok (.aload_n 0, 1) := by decide +kernel
theorem dX4_goDown_6 : decode cX4_goDown 6 = .ok (.iconst 0, 1) := by decide +kernel
theorem dX4_goDown_7 : decode cX4_goDown 7 = .ok (.putfield 19, 3) := by decide +kernel
theorem dX4_goDown_10 : decode cX4_goDown 10 = .ok (.aload_n 0, 1) := by decide +kernel
theorem dX4_goDown_11 : decode cX4_goDown 11 = .ok (.dup, 1) := by decide +kernel
theorem dX4_goDown_12 : decode cX4_goDown 12 = .ok (.getfield 22, 3) := by decide +kernel
theorem dX4_goDown_15 : decode cX4_goDown 15 = .ok (.iconst 1, 1) := by decide +kernel
theorem dX4_goDown_16 : decode cX4_goDown 16 = .ok (.iadd, 1) := by decide +kernel
theorem dX4_goDown_17 : decode cX4_goDown 17 = .ok (.putfield 22, 3) := by decide +kernel
theorem dX4_goDown_20 : decode cX4_goDown 20 = .ok (.return_, 1) := by decide +kernel
theorem dX4_hurry_0 : decode cX4_hurry 0 = .ok (.aload_n 0, 1) := by decide +kernel
theorem dX4_hurry_1 : decode cX4_hurry 1 = .ok (.getfield 9, 3) := by decide +kernel
theorem dX4_hurry_4 : decode cX4_hurry 4 = .ok (.ifCond .eq 8, 3) := by decide +kernel
theorem dX4_hurry_7 : decode cX4_hurry 7 = .ok (.aload_n 0, 1) := by decide +kernel
theorem dX4_hurry_8 : decode cX4_hurry 8 = .ok (.iconst 1, 1) := by decide +kernel
theorem dX4_hurry_9 : decode cX4_hurry 9 = .ok (.putfield 19, 3) := by decide +kernel
theorem dX4_hurry_12 : decode cX4_hurry 12 = .ok (.return_, 1) := by decide +kernel
theorem dX4_greet_0 : decode cX4_greet 0 = .ok (.aload_n 0, 1) := by decide +kernel
theorem dX4_greet_1 : decode cX4_greet 1 = .ok (.aload_n 0, 1) := by decide +kernel
theorem dX4_greet_2 : decode cX4_greet 2 = .ok (.getfield 15, 3) := by decide +kernel
theorem dX4_greet_5 : decode cX4_greet 5 = .ok (.iload_n 1, 1) := by decide +kernel
theorem dX4_greet_6 : decode cX4_greet 6 = .ok (.invokestatic 25, 3) := by decide +kernel
theorem dX4_greet_9 : decode cX4_greet 9 = .ok (.putfield 15, 3) := by decide +kernel
theorem dX4_greet_12 : decode cX4_greet 12 = .ok (.aload_n 0, 1) := by decide +kernel
theorem dX4_greet_13 : decode cX4_greet 13 = .ok (.iconst 1, 1) := by decide +kernel
theorem dX4_greet_14 : decode cX4_greet 14 = .ok (.putfield 19, 3) := by decide +kernel
theorem dX4_greet_17 : decode cX4_greet 17 = .ok (.return_, 1) := by decide +kernel
theorem dX4_noteHeard_0 : decode cX4_noteHeard 0 = .ok (.iload_n 1, 1) := by decide +kernel
theorem dX4_noteHeard_1 : decode cX4_noteHeard 1 = .ok (.ifCond .eq 16, 3) := by decide +kernel
theorem dX4_noteHeard_4 : decode cX4_noteHeard 4 = .ok (.aload_n 0, 1) := by decide +kernel
theorem dX4_noteHeard_5 : decode cX4_noteHeard 5 = .ok (.dup, 1) := by decide +kernel
theorem dX4_noteHeard_6 : decode cX4_noteHeard 6 = .ok (.getfield 31, 3) := by decide +kernel
theorem dX4_noteHeard_9 : decode cX4_noteHeard 9 = .ok (.iconst 1, 1) := by decide +kernel
theorem dX4_noteHeard_10 : decode cX4_noteHeard 10 = .ok (.iadd, 1) := by decide +kernel
theorem dX4_noteHeard_11 : decode cX4_noteHeard 11 = .ok (.putfield 31, 3) := by decide +kernel
theorem dX4_noteHeard_14 : decode cX4_noteHeard 14 = .ok (.goto 13, 3) := by decide +kernel
theorem dX4_noteHeard_17 : decode cX4_noteHeard 17 = .ok (.aload_n 0, 1) := by decide +kernel
theorem dX4_noteHeard_18 : decode cX4_noteHeard 18 = .ok (.dup, 1) := by decide +kernel
theorem dX4_noteHeard_19 : decode cX4_noteHeard 19 = .ok (.getfield 34, 3) := by decide +kernel
theorem dX4_noteHeard_22 : decode cX4_noteHeard 22 = .ok (.iconst 1, 1) := by decide +kernel
theorem dX4_noteHeard_23 : decode cX4_noteHeard 23 = .ok (.iadd, 1) := by decide +kernel
theorem dX4_noteHeard_24 : decode cX4_noteHeard 24 = .ok (.putfield 34, 3) := by decide +kernel
theorem dX4_noteHeard_27 : decode cX4_noteHeard 27 = .ok (.return_, 1) := by decide +kernel
theorem dX4_passTick_0 : decode cX4_passTick 0 = .ok (.aload_n 0, 1) := by decide +kernel
theorem dX4_passTick_1 : decode cX4_passTick 1 = .ok (.getfield 9, 3) := by decide +kernel
theorem dX4_passTick_4 : decode cX4_passTick 4 = .ok (.ifCond .ne 5, 3) := by decide +kernel
theorem dX4_passTick_7 : decode cX4_passTick 7 = .ok (.iconst 0, 1) := by decide +kernel
theorem dX4_passTick_8 : decode cX4_passTick 8 = .ok (.ireturn, 1) := by decide +kernel
theorem dX4_passTick_9 : decode cX4_passTick 9 = .ok (.aload_n 0, 1) := by decide +kernel
theorem dX4_passTick_10 : decode cX4_passTick 10 = .ok (.dup, 1) := by decide +kernel
theorem dX4_passTick_11 : decode cX4_passTick 11 = .ok (.getfield 19, 3) := by decide +kernel
theorem dX4_passTick_14 : decode cX4_passTick 14 = .ok (.iconst 1, 1) := by decide +kernel
theorem dX4_passTick_15 : decode cX4_passTick 15 = .ok (.isub, 1) := by decide +kernel
theorem dX4_passTick_16 : decode cX4_passTick 16 = .ok (.putfield 19, 3) := by decide +kernel
theorem dX4_passTick_19 : decode cX4_passTick 19 = .ok (.aload_n 0, 1) := by decide +kernel
theorem dX4_passTick_20 : decode cX4_passTick 20 = .ok (.getfield 19, 3) := by decide +kernel
theorem dX4_passTick_23 : decode cX4_passTick 23 = .ok (.ifCond .le 5, 3) := by decide +kernel
theorem dX4_passTick_26 : decode cX4_passTick 26 = .ok (.iconst 0, 1) := by decide +kernel
theorem dX4_passTick_27 : decode cX4_passTick 27 = .ok (.ireturn, 1) := by decide +kernel
theorem dX4_passTick_28 : decode cX4_passTick 28 = .ok (.aload_n 0, 1) := by decide +kernel
theorem dX4_passTick_29 : decode cX4_passTick 29 = .ok (.dup, 1) := by decide +kernel
theorem dX4_passTick_30 : decode cX4_passTick 30 = .ok (.getfield 22, 3) := by decide +kernel
theorem dX4_passTick_33 : decode cX4_passTick 33 = .ok (.iconst 1, 1) := by decide +kernel
theorem dX4_passTick_34 : decode cX4_passTick 34 = .ok (.iadd, 1) := by decide +kernel
theorem dX4_passTick_35 : decode cX4_passTick 35 = .ok (.putfield 22, 3) := by decide +kernel
theorem dX4_passTick_38 : decode cX4_passTick 38 = .ok (.aload_n 0, 1) := by decide +kernel
theorem dX4_passTick_39 : decode cX4_passTick 39 = .ok (.getfield 15, 3) := by decide +kernel
theorem dX4_passTick_42 : decode cX4_passTick 42 = .ok (.ifCond .le 13, 3) := by decide +kernel
theorem dX4_passTick_45 : decode cX4_passTick 45 = .ok (.aload_n 0, 1) := by decide +kernel
theorem dX4_passTick_46 : decode cX4_passTick 46 = .ok (.dup, 1) := by decide +kernel
theorem dX4_passTick_47 : decode cX4_passTick 47 = .ok (.getfield 15, 3) := by decide +kernel
theorem dX4_passTick_50 : decode cX4_passTick 50 = .ok (.iconst 1, 1) := by decide +kernel
theorem dX4_passTick_51 : decode cX4_passTick 51 = .ok (.isub, 1) := by decide +kernel
theorem dX4_passTick_52 : decode cX4_passTick 52 = .ok (.putfield 15, 3) := by decide +kernel
theorem dX4_passTick_55 : decode cX4_passTick 55 = .ok (.aload_n 0, 1) := by decide +kernel
theorem dX4_passTick_56 : decode cX4_passTick 56 = .ok (.aload_n 0, 1) := by decide +kernel
theorem dX4_passTick_57 : decode cX4_passTick 57 = .ok (.getfield 15, 3) := by decide +kernel
theorem dX4_passTick_60 : decode cX4_passTick 60 = .ok (.ifCond .le 7, 3) := by decide +kernel
theorem dX4_passTick_63 : decode cX4_passTick 63 = .ok (.iconst 1, 1) := by decide +kernel
theorem dX4_passTick_64 : decode cX4_passTick 64 = .ok (.goto 4, 3) := by decide +kernel
theorem dX4_passTick_67 : decode cX4_passTick 67 = .ok (.iload_n 1, 1) := by decide +kernel
theorem dX4_passTick_68 : decode cX4_passTick 68 = .ok (.putfield 19, 3) := by decide +kernel
theorem dX4_passTick_71 : decode cX4_passTick 71 = .ok (.iconst 1, 1) := by decide +kernel
theorem dX4_passTick_72 : decode cX4_passTick 72 = .ok (.ireturn, 1) := by decide +kernel
theorem dX4_tellAbout_0 : decode cX4_tellAbout 0 = .ok (.iload_n 1, 1) := by decide +kernel
theorem dX4_tellAbout_1 : decode cX4_tellAbout 1 = .ok (.tableswitch 81 0 6 #[43, 56, 61, 66, 81, 71, 76], 43) := by decide +kernel
theorem dX4_tellAbout_44 : decode cX4_tellAbout 44 = .ok (.aload_n 0, 1) := by decide +kernel
theorem dX4_tellAbout_45 : decode cX4_tellAbout 45 = .ok (.getfield 9, 3) := by decide +kernel
theorem dX4_tellAbout_48 : decode cX4_tellAbout 48 = .ok (.ifCond .eq 7, 3) := by decide +kernel
theorem dX4_tellAbout_51 : decode cX4_tellAbout 51 = .ok (.iconst 1, 1) := by decide +kernel
theorem dX4_tellAbout_52 : decode cX4_tellAbout 52 = .ok (.goto 4, 3) := by decide +kernel
theorem dX4_tellAbout_55 : decode cX4_tellAbout 55 = .ok (.iconst 0, 1) := by decide +kernel
theorem dX4_tellAbout_56 : decode cX4_tellAbout 56 = .ok (.ireturn, 1) := by decide +kernel
theorem dX4_tellAbout_57 : decode cX4_tellAbout 57 = .ok (.aload_n 0, 1) := by decide +kernel
theorem dX4_tellAbout_58 : decode cX4_tellAbout 58 = .ok (.getfield 22, 3) := by decide +kernel
theorem dX4_tellAbout_61 : decode cX4_tellAbout 61 = .ok (.ireturn, 1) := by decide +kernel
theorem dX4_tellAbout_62 : decode cX4_tellAbout 62 = .ok (.aload_n 0, 1) := by decide +kernel
theorem dX4_tellAbout_63 : decode cX4_tellAbout 63 = .ok (.getfield 31, 3) := by decide +kernel
theorem dX4_tellAbout_66 : decode cX4_tellAbout 66 = .ok (.ireturn, 1) := by decide +kernel
theorem dX4_tellAbout_67 : decode cX4_tellAbout 67 = .ok (.aload_n 0, 1) := by decide +kernel
theorem dX4_tellAbout_68 : decode cX4_tellAbout 68 = .ok (.getfield 34, 3) := by decide +kernel
theorem dX4_tellAbout_71 : decode cX4_tellAbout 71 = .ok (.ireturn, 1) := by decide +kernel
theorem dX4_tellAbout_72 : decode cX4_tellAbout 72 = .ok (.aload_n 0, 1) := by decide +kernel
theorem dX4_tellAbout_73 : decode cX4_tellAbout 73 = .ok (.getfield 19, 3) := by decide +kernel
theorem dX4_tellAbout_76 : decode cX4_tellAbout 76 = .ok (.ireturn, 1) := by decide +kernel
theorem dX4_tellAbout_77 : decode cX4_tellAbout 77 = .ok (.aload_n 0, 1) := by decide +kernel
theorem dX4_tellAbout_78 : decode cX4_tellAbout 78 = .ok (.getfield 15, 3) := by decide +kernel
theorem dX4_tellAbout_81 : decode cX4_tellAbout 81 = .ok (.ireturn, 1) := by decide +kernel
theorem dX4_tellAbout_82 : decode cX4_tellAbout 82 = .ok (.iconst (-1), 1) := by decide +kernel
theorem dX4_tellAbout_83 : decode cX4_tellAbout 83 = .ok (.ireturn, 1) := by decide +kernel
end
section
theorem dX5_init_0 : decode cX5_init 0 = .ok (.aload_n 0, 1) := by decide +kernel
theorem dX5_init_1 : decode cX5_init 1 = .ok (.invokespecial 3, 3) := by decide +kernel
theorem dX5_init_4 : decode cX5_init 4 = .ok (.aload_n 0, 1) := by decide +kernel
theorem dX5_init_5 : decode cX5_init 5 = .ok (.sipush 439, 3) := by decide +kernel
theorem dX5_init_8 : decode cX5_init 8 = .ok (.newarray .byte, 2) := by decide +kernel
theorem dX5_init_10 : decode cX5_init 10 = .ok (.putfield 9, 3) := by decide +kernel
theorem dX5_init_13 : decode cX5_init 13 = .ok (.aload_n 0, 1) := by decide +kernel
theorem dX5_init_14 : decode cX5_init 14 = .ok (.iconst (-1), 1) := by decide +kernel
theorem dX5_init_15 : decode cX5_init 15 = .ok (.putfield 15, 3) := by decide +kernel
theorem dX5_init_18 : decode cX5_init 18 = .ok (.return_, 1) := by decide +kernel
theorem dX5_length_0 : decode cX5_length 0 = .ok (.aload_n 0, 1) := by decide +kernel
theorem dX5_length_1 : decode cX5_length 1 = .ok (.getfield 19, 3) := by decide +kernel
theorem dX5_length_4 : decode cX5_length 4 = .ok (.ireturn, 1) := by decide +kernel
theorem dX5_portOf_0 : decode cX5_portOf 0 = .ok (.aload_n 0, 1) := by decide +kernel
theorem dX5_portOf_1 : decode cX5_portOf 1 = .ok (.getfield 15, 3) := by decide +kernel
theorem dX5_portOf_4 : decode cX5_portOf 4 = .ok (.ireturn, 1) := by decide +kernel
theorem dX5_byteAt_0 : decode cX5_byteAt 0 = .ok (.iload_n 1, 1) := by decide +kernel
theorem dX5_byteAt_1 : decode cX5_byteAt 1 = .ok (.ifCond .lt 24, 3) := by decide +kernel
theorem dX5_byteAt_4 : decode cX5_byteAt 4 = .ok (.iload_n 1, 1) := by decide +kernel
theorem dX5_byteAt_5 : decode cX5_byteAt 5 = .ok (.aload_n 0, 1) := by decide +kernel
theorem dX5_byteAt_6 : decode cX5_byteAt 6 = .ok (.getfield 19, 3) := by decide +kernel
theorem dX5_byteAt_9 : decode cX5_byteAt 9 = .ok (.if_icmp .ge 16, 3) := by decide +kernel
theorem dX5_byteAt_12 : decode cX5_byteAt 12 = .ok (.aload_n 0, 1) := by decide +kernel
theorem dX5_byteAt_13 : decode cX5_byteAt 13 = .ok (.getfield 9, 3) := by decide +kernel
theorem dX5_byteAt_16 : decode cX5_byteAt 16 = .ok (.iload_n 1, 1) := by decide +kernel
theorem dX5_byteAt_17 : decode cX5_byteAt 17 = .ok (.baload, 1) := by decide +kernel
theorem dX5_byteAt_18 : decode cX5_byteAt 18 = .ok (.sipush 255, 3) := by decide +kernel
theorem dX5_byteAt_21 : decode cX5_byteAt 21 = .ok (.iand, 1) := by decide +kernel
theorem dX5_byteAt_22 : decode cX5_byteAt 22 = .ok (.goto 4, 3) := by decide +kernel
theorem dX5_byteAt_25 : decode cX5_byteAt 25 = .ok (.iconst (-1), 1) := by decide +kernel
theorem dX5_byteAt_26 : decode cX5_byteAt 26 = .ok (.ireturn, 1) := by decide +kernel
set_option maxRecDepth 20000 in
theorem ggX5_write_X0_sizeOf : GoodIn wsX5_write wsX0_sizeOf := goodIn_r _ [7, 8, 39, 40] (by decide +kernel) (by decide +kernel)
set_option maxRecDepth 20000 in
theorem gX5_write_X0_sizeOf : GoodIn wsX5_write (wsV RX5 22 RX0 yX0_sizeOf wsX0_sizeOf) := goodIn_app (goodIn_of _ (by decide +kernel)) ggX5_write_X0_sizeOf
set_option maxRecDepth 20000 in
theorem ggX5_write_X5_putHead : GoodIn wsX5_write wsX5_putHead := goodIn_r _ [13, 14, 15, 16, 12, 17, 2, 18, 36, 37, 38] (by decide +kernel) (by decide +kernel)
set_option maxRecDepth 20000 in
theorem gX5_write_X5_putHead : GoodIn wsX5_write (wsV RX5 28 RX5 yX5_putHead wsX5_putHead) := goodIn_app (goodIn_of _ (by decide +kernel)) ggX5_write_X5_putHead
set_option maxRecDepth 20000 in
theorem ggX5_write_X5_putContent : GoodIn wsX5_write wsX5_putContent := goodIn_r _ [22, 3, 4, 5, 6, 7, 8, 23, 24, 25, 26, 27, 28, 29, 30, 31, 14, 15, 16, 12, 17, 2, 18, 39, 40, 36, 37, 38] (by decide +kernel) (by decide +kernel)
set_option maxRecDepth 20000 in
theorem gX5_write_X5_putContent : GoodIn wsX5_write (wsV RX5 32 RX5 yX5_putContent wsX5_putContent) := goodIn_app (goodIn_of _ (by decide +kernel)) ggX5_write_X5_putContent
set_option maxRecDepth 20000 in
theorem ggX5_write_X5_putByte : GoodIn wsX5_write wsX5_putByte := goodIn_r _ [17, 2, 18, 36, 37, 38] (by decide +kernel) (by decide +kernel)
set_option maxRecDepth 20000 in
theorem gX5_write_X5_putByte : GoodIn wsX5_write (wsV RX5 36 RX5 yX5_putByte wsX5_putByte) := goodIn_app (goodIn_of _ (by decide +kernel)) ggX5_write_X5_putByte
set_option maxRecDepth 20000 in
theorem ggX5_write_X0_has : GoodIn wsX5_write wsX0_has := goodIn_r _ [35, 28, 4, 5, 6, 7, 8, 39, 40] (by decide +kernel) (by decide +kernel)
set_option maxRecDepth 20000 in
theorem gX5_write_X0_has : GoodIn wsX5_write (wsV RX5 40 RX0 yX0_has wsX0_has) := goodIn_app (goodIn_of _ (by decide +kernel)) ggX5_write_X0_has
theorem dX5_write_0 : decode cX5_write 0 = .ok (.aload_n 0, 1) := by decide +kernel
theorem dX5_write_1 : decode cX5_write 1 = .ok (.iload_n 1, 1) := by decide +kernel
theorem dX5_write_2 : decode cX5_write 2 = .ok (.putfield 15, 3) := by decide +kernel
theorem dX5_write_5 : decode cX5_write 5 = .ok (.aload_n 0, 1) := by decide +kernel
theorem dX5_write_6 : decode cX5_write 6 = .ok (.iconst 0, 1) := by decide +kernel
theorem dX5_write_7 : decode cX5_write 7 = .ok (.putfield 19, 3) := by decide +kernel
theorem dX5_write_10 : decode cX5_write 10 = .ok (.aload_n 0, 1) := by decide +kernel
theorem dX5_write_11 : decode cX5_write 11 = .ok (.iconst 1, 1) := by decide +kernel
theorem dX5_write_12 : decode cX5_write 12 = .ok (.aload_n 2, 1) := by decide +kernel
theorem dX5_write_13 : decode cX5_write 13 = .ok (.iconst 1, 1) := by decide +kernel
theorem dX5_write_14 : decode cX5_write 14 = .ok (.invokevirtual 22, 3) := by decide +kernel
theorem dX5_write_17 : decode cX5_write 17 = .ok (.invokevirtual 28, 3) := by decide +kernel
theorem dX5_write_20 : decode cX5_write 20 = .ok (.aload_n 0, 1) := by decide +kernel
theorem dX5_write_21 : decode cX5_write 21 = .ok (.iconst 1, 1) := by decide +kernel
theorem dX5_write_22 : decode cX5_write 22 = .ok (.aload_n 2, 1) := by decide +kernel
theorem dX5_write_23 : decode cX5_write 23 = .ok (.invokevirtual 32, 3) := by decide +kernel
theorem dX5_write_26 : decode cX5_write 26 = .ok (.aload_n 0, 1) := by decide +kernel
theorem dX5_write_27 : decode cX5_write 27 = .ok (.iconst 2, 1) := by decide +kernel
theorem dX5_write_28 : decode cX5_write 28 = .ok (.aload_n 2, 1) := by decide +kernel
theorem dX5_write_29 : decode cX5_write 29 = .ok (.iconst 2, 1) := by decide +kernel
theorem dX5_write_30 : decode cX5_write 30 = .ok (.invokevirtual 22, 3) := by decide +kernel
theorem dX5_write_33 : decode cX5_write 33 = .ok (.iconst 1, 1) := by decide +kernel
theorem dX5_write_34 : decode cX5_write 34 = .ok (.iadd, 1) := by decide +kernel
theorem dX5_write_35 : decode cX5_write 35 = .ok (.invokevirtual 28, 3) := by decide +kernel
theorem dX5_write_38 : decode cX5_write 38 = .ok (.aload_n 0, 1) := by decide +kernel
theorem dX5_write_39 : decode cX5_write 39 = .ok (.iconst 2, 1) := by decide +kernel
theorem dX5_write_40 : decode cX5_write 40 = .ok (.aload_n 2, 1) := by decide +kernel
theorem dX5_write_41 : decode cX5_write 41 = .ok (.invokevirtual 32, 3) := by decide +kernel
theorem dX5_write_44 : decode cX5_write 44 = .ok (.aload_n 0, 1) := by decide +kernel
theorem dX5_write_45 : decode cX5_write 45 = .ok (.iload_n 1, 1) := by decide +kernel
theorem dX5_write_46 : decode cX5_write 46 = .ok (.invokevirtual 36, 3) := by decide +kernel
theorem dX5_write_49 : decode cX5_write 49 = .ok (.aload_n 0, 1) := by decide +kernel
theorem dX5_write_50 : decode cX5_write 50 = .ok (.iconst 3, 1) := by decide +kernel
theorem dX5_write_51 : decode cX5_write 51 = .ok (.iconst 2, 1) := by decide +kernel
theorem dX5_write_52 : decode cX5_write 52 = .ok (.invokevirtual 28, 3) := by decide +kernel
theorem dX5_write_55 : decode cX5_write 55 = .ok (.aload_n 0, 1) := by decide +kernel
theorem dX5_write_56 : decode cX5_write 56 = .ok (.iload_n 3, 1) := by decide +kernel
theorem dX5_write_57 : decode cX5_write 57 = .ok (.bipush 8, 2) := by decide +kernel
theorem dX5_write_59 : decode cX5_write 59 = .ok (.ishr, 1) := by decide +kernel
theorem dX5_write_60 : decode cX5_write 60 = .ok (.invokevirtual 36, 3) := by decide +kernel
theorem dX5_write_63 : decode cX5_write 63 = .ok (.aload_n 0, 1) := by decide +kernel
theorem dX5_write_64 : decode cX5_write 64 = .ok (.iload_n 3, 1) := by decide +kernel
theorem dX5_write_65 : decode cX5_write 65 = .ok (.invokevirtual 36, 3) := by decide +kernel
theorem dX5_write_68 : decode cX5_write 68 = .ok (.iconst 4, 1) := by decide +kernel
theorem dX5_write_69 : decode cX5_write 69 = .ok (.istore 4, 2) := by decide +kernel
theorem dX5_write_71 : decode cX5_write 71 = .ok (.iload 4, 2) := by decide +kernel
theorem dX5_write_73 : decode cX5_write 73 = .ok (.bipush 8, 2) := by decide +kernel
theorem dX5_write_75 : decode cX5_write 75 = .ok (.if_icmp .gt 37, 3) := by decide +kernel
theorem dX5_write_78 : decode cX5_write 78 = .ok (.aload_n 2, 1) := by decide +kernel
theorem dX5_write_79 : decode cX5_write 79 = .ok (.iload 4, 2) := by decide +kernel
theorem dX5_write_81 : decode cX5_write 81 = .ok (.invokevirtual 40, 3) := by decide +kernel
theorem dX5_write_84 : decode cX5_write 84 = .ok (.ifCond .eq 22, 3) := by decide +kernel
theorem dX5_write_87 : decode cX5_write 87 = .ok (.aload_n 0, 1) := by decide +kernel
theorem dX5_write_88 : decode cX5_write 88 = .ok (.iload 4, 2) := by decide +kernel
theorem dX5_write_90 : decode cX5_write 90 = .ok (.aload_n 2, 1) := by decide +kernel
theorem dX5_write_91 : decode cX5_write 91 = .ok (.iload 4, 2) := by decide +kernel
theorem dX5_write_93 : decode cX5_write 93 = .ok (.invokevirtual 22, 3) := by decide +kernel
theorem dX5_write_96 : decode cX5_write 96 = .ok (.invokevirtual 28, 3) := by decide +kernel
theorem dX5_write_99 : decode cX5_write 99 = .ok (.aload_n 0, 1) := by decide +kernel
theorem dX5_write_100 : decode cX5_write 100 = .ok (.iload 4, 2) := by decide +kernel
theorem dX5_write_102 : decode cX5_write 102 = .ok (.aload_n 2, 1) := by decide +kernel
theorem dX5_write_103 : decode cX5_write 103 = .ok (.invokevirtual 32, 3) := by decide +kernel
theorem dX5_write_106 : decode cX5_write 106 = .ok (.iinc 4 1, 3) := by decide +kernel
theorem dX5_write_109 : decode cX5_write 109 = .ok (.goto (-38), 3) := by decide +kernel
theorem dX5_write_112 : decode cX5_write 112 = .ok (.aload_n 0, 1) := by decide +kernel
theorem dX5_write_113 : decode cX5_write 113 = .ok (.iconst 0, 1) := by decide +kernel
theorem dX5_write_114 : decode cX5_write 114 = .ok (.iconst 0, 1) := by decide +kernel
theorem dX5_write_115 : decode cX5_write 115 = .ok (.invokevirtual 28, 3) := by decide +kernel
theorem dX5_write_118 : decode cX5_write 118 = .ok (.return_, 1) := by decide +kernel
set_option maxRecDepth 20000 in
theorem ggX5_putHead_X5_putByte : GoodIn wsX5_putHead wsX5_putByte := goodIn_r _ [5, 6, 7, 8, 9, 10] (by decide +kernel) (by decide +kernel)
set_option maxRecDepth 20000 in
theorem gX5_putHead_X5_putByte : GoodIn wsX5_putHead (wsV RX5 36 RX5 yX5_putByte wsX5_putByte) := goodIn_app (goodIn_of _ (by decide +kernel)) ggX5_putHead_X5_putByte
theorem dX5_putHead_0 : decode cX5_putHead 0 = .ok (.iload_n 1, 1) := by decide +kernel
theorem dX5_putHead_1 : decode cX5_putHead 1 = .ok (.bipush 9, 2) := by decide +kernel
theorem dX5_putHead_3 : decode cX5_putHead 3 = .ok (.ishl, 1) := by decide +kernel
theorem dX5_putHead_4 : decode cX5_putHead 4 = .ok (.iload_n 2, 1) := by decide +kernel
theorem dX5_putHead_5 : decode cX5_putHead 5 = .ok (.ior, 1) := by decide +kernel
theorem dX5_putHead_6 : decode cX5_putHead 6 = .ok (.istore_n 3, 1) := by decide +kernel
theorem dX5_putHead_7 : decode cX5_putHead 7 = .ok (.aload_n 0, 1) := by decide +kernel
theorem dX5_putHead_8 : decode cX5_putHead 8 = .ok (.iload_n 3, 1) := by decide +kernel
theorem dX5_putHead_9 : decode cX5_putHead 9 = .ok (.bipush 8, 2) := by decide +kernel
theorem dX5_putHead_11 : decode cX5_putHead 11 = .ok (.ishr, 1) := by decide +kernel
theorem dX5_putHead_12 : decode cX5_putHead 12 = .ok (.invokevirtual 36, 3) := by decide +kernel
theorem dX5_putHead_15 : decode cX5_putHead 15 = .ok (.aload_n 0, 1) := by decide +kernel
theorem dX5_putHead_16 : decode cX5_putHead 16 = .ok (.iload_n 3, 1) := by decide +kernel
theorem dX5_putHead_17 : decode cX5_putHead 17 = .ok (.invokevirtual 36, 3) := by decide +kernel
theorem dX5_putHead_20 : decode cX5_putHead 20 = .ok (.return_, 1) := by decide +kernel
set_option maxRecDepth 20000 in
theorem ggX5_putContent_X0_sizeOf : GoodIn wsX5_putContent wsX0_sizeOf := goodIn_r _ [5, 6, 23, 24] (by decide +kernel) (by decide +kernel)
set_option maxRecDepth 20000 in
theorem gX5_putContent_X0_sizeOf : GoodIn wsX5_putContent (wsV RX5 22 RX0 yX0_sizeOf wsX0_sizeOf) := goodIn_app (goodIn_of _ (by decide +kernel)) ggX5_putContent_X0_sizeOf
set_option maxRecDepth 20000 in
theorem ggX5_putContent_X0_byteAt : GoodIn wsX5_putContent wsX0_byteAt := goodIn_r _ [10, 11, 12, 2, 3, 4, 5, 6, 13, 14, 15, 23, 24] (by decide +kernel) (by decide +kernel)
set_option maxRecDepth 20000 in
theorem gX5_putContent_X0_byteAt : GoodIn wsX5_putContent (wsV RX5 44 RX0 yX0_byteAt wsX0_byteAt) := goodIn_app (goodIn_of _ (by decide +kernel)) ggX5_putContent_X0_byteAt
set_option maxRecDepth 20000 in
theorem ggX5_putContent_X5_putByte : GoodIn wsX5_putContent wsX5_putByte := goodIn_r _ [20, 21, 22, 25, 26, 27] (by decide +kernel) (by decide +kernel)
set_option maxRecDepth 20000 in
theorem gX5_putContent_X5_putByte : GoodIn wsX5_putContent (wsV RX5 36 RX5 yX5_putByte wsX5_putByte) := goodIn_app (goodIn_of _ (by decide +kernel)) ggX5_putContent_X5_putByte
theorem dX5_putContent_0 : decode cX5_putContent 0 = .ok (.aload_n 2, 1) := by decide +kernel
theorem dX5_putContent_1 : decode cX5_putContent 1 = .ok (.iload_n 1, 1) := by decide +kernel
theorem dX5_putContent_2 : decode cX5_putContent 2 = .ok (.invokevirtual 22, 3) := by decide +kernel
theorem dX5_putContent_5 : decode cX5_putContent 5 = .ok (.istore_n 3, 1) := by decide +kernel
theorem dX5_putContent_6 : decode cX5_putContent 6 = .ok (.iconst 0, 1) := by decide +kernel
theorem dX5_putContent_7 : decode cX5_putContent 7 = .ok (.istore 4, 2) := by decide +kernel
theorem dX5_putContent_9 : decode cX5_putContent 9 = .ok (.iload 4, 2) := by decide +kernel
theorem dX5_putContent_11 : decode cX5_putContent 11 = .ok (.iload_n 3, 1) := by decide +kernel
theorem dX5_putContent_12 : decode cX5_putContent 12 = .ok (.if_icmp .ge 20, 3) := by decide +kernel
theorem dX5_putContent_15 : decode cX5_putContent 15 = .ok (.aload_n 0, 1) := by decide +kernel
theorem dX5_putContent_16 : decode cX5_putContent 16 = .ok (.aload_n 2, 1) := by decide +kernel
theorem dX5_putContent_17 : decode cX5_putContent 17 = .ok (.iload_n 1, 1) := by decide +kernel
theorem dX5_putContent_18 : decode cX5_putContent 18 = .ok (.iload 4, 2) := by decide +kernel
theorem dX5_putContent_20 : decode cX5_putContent 20 = .ok (.invokevirtual 44, 3) := by decide +kernel
theorem dX5_putContent_23 : decode cX5_putContent 23 = .ok (.invokevirtual 36, 3) := by decide +kernel
theorem dX5_putContent_26 : decode cX5_putContent 26 = .ok (.iinc 4 1, 3) := by decide +kernel
theorem dX5_putContent_29 : decode cX5_putContent 29 = .ok (.goto (-20), 3) := by decide +kernel
theorem dX5_putContent_32 : decode cX5_putContent 32 = .ok (.return_, 1) := by decide +kernel
theorem dX5_putByte_0 : decode cX5_putByte 0 = .ok (.aload_n 0, 1) := by decide +kernel
theorem dX5_putByte_1 : decode cX5_putByte 1 = .ok (.getfield 19, 3) := by decide +kernel
theorem dX5_putByte_4 : decode cX5_putByte 4 = .ok (.sipush 439, 3) := by decide +kernel
theorem dX5_putByte_7 : decode cX5_putByte 7 = .ok (.if_icmp .ge 24, 3) := by decide +kernel
theorem dX5_putByte_10 : decode cX5_putByte 10 = .ok (.aload_n 0, 1) := by decide +kernel
theorem dX5_putByte_11 : decode cX5_putByte 11 = .ok (.getfield 9, 3) := by decide +kernel
theorem dX5_putByte_14 : decode cX5_putByte 14 = .ok (.aload_n 0, 1) := by decide +kernel
theorem dX5_putByte_15 : decode cX5_putByte 15 = .ok (.getfield 19, 3) := by decide +kernel
theorem dX5_putByte_18 : decode cX5_putByte 18 = .ok (.iload_n 1, 1) := by decide +kernel
theorem dX5_putByte_19 : decode cX5_putByte 19 = .ok (.i2b, 1) := by decide +kernel
theorem dX5_putByte_20 : decode cX5_putByte 20 = .ok (.bastore, 1) := by decide +kernel
theorem dX5_putByte_21 : decode cX5_putByte 21 = .ok (.aload_n 0, 1) := by decide +kernel
theorem dX5_putByte_22 : decode cX5_putByte 22 = .ok (.dup, 1) := by decide +kernel
theorem dX5_putByte_23 : decode cX5_putByte 23 = .ok (.getfield 19, 3) := by decide +kernel
theorem dX5_putByte_26 : decode cX5_putByte 26 = .ok (.iconst 1, 1) := by decide +kernel
theorem dX5_putByte_27 : decode cX5_putByte 27 = .ok (.iadd, 1) := by decide +kernel
theorem dX5_putByte_28 : decode cX5_putByte 28 = .ok (.putfield 19, 3) := by decide +kernel
theorem dX5_putByte_31 : decode cX5_putByte 31 = .ok (.return_, 1) := by decide +kernel
set_option maxRecDepth 20000 in
theorem ggX6_init_X0_init : GoodIn wsX6_init wsX0_init := goodIn_r _ [32, 33, 2, 3, 34, 35, 4, 36, 37, 38, 39, 8, 40, 41, 42, 43, 44, 102, 103] (by decide +kernel) (by decide +kernel)
set_option maxRecDepth 20000 in
theorem gX6_init_X0_init : GoodIn wsX6_init (wsX0_init) := ggX6_init_X0_init
set_option maxRecDepth 20000 in
theorem ggX6_init_X3_init : GoodIn wsX6_init wsX3_init := goodIn_r _ [47, 48, 2, 3, 49, 50, 51, 52, 53, 54, 55, 56, 7, 8, 57, 58, 31, 32, 33, 34, 35, 4, 36, 37, 38, 39, 40, 41, 42, 43, 44, 104, 105, 117, 118, 119, 120, 102, 103] (by decide +kernel) (by decide +kernel)
set_option maxRecDepth 20000 in
theorem gX6_init_X3_init : GoodIn wsX6_init (wsX3_init) := ggX6_init_X3_init
set_option maxRecDepth 20000 in
theorem ggX6_init_X1_init : GoodIn wsX6_init wsX1_init := goodIn_r _ [60, 61, 2, 3, 62, 7, 8, 63, 64, 31, 32, 33, 34, 35, 4, 36, 37, 38, 39, 40, 41, 42, 43, 44, 102, 103, 106, 107] (by decide +kernel) (by decide +kernel)
set_option maxRecDepth 20000 in
theorem gX6_init_X1_init_n35 : GoodIn wsX6_init (wsX1_init) := ggX6_init_X1_init
set_option maxRecDepth 20000 in
theorem ggX6_init_X5_init : GoodIn wsX6_init wsX5_init := goodIn_r _ [66, 67, 2, 3, 4, 68, 69, 108, 109, 110] (by decide +kernel) (by decide +kernel)
set_option maxRecDepth 20000 in
theorem gX6_init_X5_init_n42 : GoodIn wsX6_init (wsX5_init) := ggX6_init_X5_init
set_option maxRecDepth 20000 in
theorem ggX6_init_X4_init : GoodIn wsX6_init wsX4_init := goodIn_r _ [71, 72, 2, 3] (by decide +kernel) (by decide +kernel)
set_option maxRecDepth 20000 in
theorem gX6_init_X4_init_n57 : GoodIn wsX6_init (wsX4_init) := ggX6_init_X4_init
set_option maxRecDepth 20000 in
theorem ggX6_init_X0_keep : GoodIn wsX6_init wsX0_keep := goodIn_r _ [76, 36, 77, 78, 79, 80, 35, 81, 82, 8, 83, 84, 85, 86, 87, 88, 89, 102, 103] (by decide +kernel) (by decide +kernel)
set_option maxRecDepth 20000 in
theorem gX6_init_X0_keep : GoodIn wsX6_init (wsV RX6 61 RX0 yX0_keep wsX0_keep) := goodIn_app (goodIn_of _ (by decide +kernel)) ggX6_init_X0_keep
theorem dX6_init_0 : decode cX6_init 0 = .ok (.aload_n 0, 1) := by decide +kernel
theorem dX6_init_1 : decode cX6_init 1 = .ok (.invokespecial 1, 3) := by decide +kernel
theorem dX6_init_4 : decode cX6_init 4 = .ok (.aload_n 0, 1) := by decide +kernel
theorem dX6_init_5 : decode cX6_init 5 = .ok (.sipush 700, 3) := by decide +kernel
theorem dX6_init_8 : decode cX6_init 8 = .ok (.newarray .byte, 2) := by decide +kernel
theorem dX6_init_10 : decode cX6_init 10 = .ok (.putfield 9, 3) := by decide +kernel
theorem dX6_init_13 : decode cX6_init 13 = .ok (.aload_n 0, 1) := by decide +kernel
theorem dX6_init_14 : decode cX6_init 14 = .ok (.new 13, 3) := by decide +kernel
theorem dX6_init_17 : decode cX6_init 17 = .ok (.dup, 1) := by decide +kernel
theorem dX6_init_18 : decode cX6_init 18 = .ok (.invokespecial 15, 3) := by decide +kernel
theorem dX6_init_21 : decode cX6_init 21 = .ok (.putfield 16, 3) := by decide +kernel
theorem dX6_init_24 : decode cX6_init 24 = .ok (.aload_n 0, 1) := by decide +kernel
theorem dX6_init_25 : decode cX6_init 25 = .ok (.iconst 4, 1) := by decide +kernel
theorem dX6_init_26 : decode cX6_init 26 = .ok (.anewarray 20, 3) := by decide +kernel
theorem dX6_init_29 : decode cX6_init 29 = .ok (.putfield 22, 3) := by decide +kernel
theorem dX6_init_32 : decode cX6_init 32 = .ok (.aload_n 0, 1) := by decide +kernel
theorem dX6_init_33 : decode cX6_init 33 = .ok (.new 26, 3) := by decide +kernel
theorem dX6_init_36 : decode cX6_init 36 = .ok (.dup, 1) := by decide +kernel
theorem dX6_init_37 : decode cX6_init 37 = .ok (.invokespecial 28, 3) := by decide +kernel
theorem dX6_init_40 : decode cX6_init 40 = .ok (.putfield 29, 3) := by decide +kernel
theorem dX6_init_43 : decode cX6_init 43 = .ok (.aload_n 0, 1) := by decide +kernel
theorem dX6_init_44 : decode cX6_init 44 = .ok (.new 33, 3) := by decide +kernel
theorem dX6_init_47 : decode cX6_init 47 = .ok (.dup, 1) := by decide +kernel
theorem dX6_init_48 : decode cX6_init 48 = .ok (.invokespecial 35, 3) := by decide +kernel
theorem dX6_init_51 : decode cX6_init 51 = .ok (.putfield 36, 3) := by decide +kernel
theorem dX6_init_54 : decode cX6_init 54 = .ok (.aload_n 0, 1) := by decide +kernel
theorem dX6_init_55 : decode cX6_init 55 = .ok (.new 40, 3) := by decide +kernel
theorem dX6_init_58 : decode cX6_init 58 = .ok (.dup, 1) := by decide +kernel
theorem dX6_init_59 : decode cX6_init 59 = .ok (.invokespecial 42, 3) := by decide +kernel
theorem dX6_init_62 : decode cX6_init 62 = .ok (.putfield 43, 3) := by decide +kernel
theorem dX6_init_65 : decode cX6_init 65 = .ok (.aload_n 0, 1) := by decide +kernel
theorem dX6_init_66 : decode cX6_init 66 = .ok (.bipush 30, 2) := by decide +kernel
theorem dX6_init_68 : decode cX6_init 68 = .ok (.putfield 47, 3) := by decide +kernel
theorem dX6_init_71 : decode cX6_init 71 = .ok (.aload_n 0, 1) := by decide +kernel
theorem dX6_init_72 : decode cX6_init 72 = .ok (.iconst 4, 1) := by decide +kernel
theorem dX6_init_73 : decode cX6_init 73 = .ok (.putfield 51, 3) := by decide +kernel
theorem dX6_init_76 : decode cX6_init 76 = .ok (.aload_n 0, 1) := by decide +kernel
theorem dX6_init_77 : decode cX6_init 77 = .ok (.iconst 4, 1) := by decide +kernel
theorem dX6_init_78 : decode cX6_init 78 = .ok (.putfield 54, 3) := by decide +kernel
theorem dX6_init_81 : decode cX6_init 81 = .ok (.iconst 0, 1) := by decide +kernel
theorem dX6_init_82 : decode cX6_init 82 = .ok (.istore_n 1, 1) := by decide +kernel
theorem dX6_init_83 : decode cX6_init 83 = .ok (.iload_n 1, 1) := by decide +kernel
theorem dX6_init_84 : decode cX6_init 84 = .ok (.iconst 4, 1) := by decide +kernel
theorem dX6_init_85 : decode cX6_init 85 = .ok (.if_icmp .ge 22, 3) := by decide +kernel
theorem dX6_init_88 : decode cX6_init 88 = .ok (.aload_n 0, 1) := by decide +kernel
theorem dX6_init_89 : decode cX6_init 89 = .ok (.getfield 22, 3) := by decide +kernel
theorem dX6_init_92 : decode cX6_init 92 = .ok (.iload_n 1, 1) := by decide +kernel
theorem dX6_init_93 : decode cX6_init 93 = .ok (.new 20, 3) := by decide +kernel
theorem dX6_init_96 : decode cX6_init 96 = .ok (.dup, 1) := by decide +kernel
theorem dX6_init_97 : decode cX6_init 97 = .ok (.invokespecial 57, 3) := by decide +kernel
theorem dX6_init_100 : decode cX6_init 100 = .ok (.aastore, 1) := by decide +kernel
theorem dX6_init_101 : decode cX6_init 101 = .ok (.iinc 1 1, 3) := by decide +kernel
theorem dX6_init_104 : decode cX6_init 104 = .ok (.goto (-21), 3) := by decide +kernel
theorem dX6_init_107 : decode cX6_init 107 = .ok (.aload_n 0, 1) := by decide +kernel
theorem dX6_init_108 : decode cX6_init 108 = .ok (.getfield 16, 3) := by decide +kernel
theorem dX6_init_111 : decode cX6_init 111 = .ok (.iconst 1, 1) := by decide +kernel
theorem dX6_init_112 : decode cX6_init 112 = .ok (.getstatic 58, 3) := by decide +kernel
theorem dX6_init_115 : decode cX6_init 115 = .ok (.iconst 0, 1) := by decide +kernel
theorem dX6_init_116 : decode cX6_init 116 = .ok (.iconst 2, 1) := by decide +kernel
theorem dX6_init_117 : decode cX6_init 117 = .ok (.invokevirtual 61, 3) := by decide +kernel
theorem dX6_init_120 : decode cX6_init 120 = .ok (.aload_n 0, 1) := by decide +kernel
theorem dX6_init_121 : decode cX6_init 121 = .ok (.getfield 16, 3) := by decide +kernel
theorem dX6_init_124 : decode cX6_init 124 = .ok (.iconst 2, 1) := by decide +kernel
theorem dX6_init_125 : decode cX6_init 125 = .ok (.getstatic 58, 3) := by decide +kernel
theorem dX6_init_128 : decode cX6_init 128 = .ok (.iconst 0, 1) := by decide +kernel
theorem dX6_init_129 : decode cX6_init 129 = .ok (.iconst 2, 1) := by decide +kernel
theorem dX6_init_130 : decode cX6_init 130 = .ok (.invokevirtual 61, 3) := by decide +kernel
theorem dX6_init_133 : decode cX6_init 133 = .ok (.return_, 1) := by decide +kernel
theorem dX6_type_0 : decode cX6_type 0 = .ok (.iload_n 3, 1) := by decide +kernel
theorem dX6_type_1 : decode cX6_type 1 = .ok (.iconst 1, 1) := by decide +kernel
theorem dX6_type_2 : decode cX6_type 2 = .ok (.if_icmp .lt 21, 3) := by decide +kernel
theorem dX6_type_5 : decode cX6_type 5 = .ok (.iload_n 3, 1) := by decide +kernel
theorem dX6_type_6 : decode cX6_type 6 = .ok (.bipush 8, 2) := by decide +kernel
theorem dX6_type_8 : decode cX6_type 8 = .ok (.if_icmp .gt 15, 3) := by decide +kernel
theorem dX6_type_11 : decode cX6_type 11 = .ok (.aload_n 0, 1) := by decide +kernel
theorem dX6_type_12 : decode cX6_type 12 = .ok (.getfield 65, 3) := by decide +kernel
theorem dX6_type_15 : decode cX6_type 15 = .ok (.iload_n 3, 1) := by decide +kernel
theorem dX6_type_16 : decode cX6_type 16 = .ok (.iadd, 1) := by decide +kernel
theorem dX6_type_17 : decode cX6_type 17 = .ok (.sipush 700, 3) := by decide +kernel
theorem dX6_type_20 : decode cX6_type 20 = .ok (.if_icmp .le 5, 3) := by decide +kernel
theorem dX6_type_23 : decode cX6_type 23 = .ok (.iconst (-1), 1) := by decide +kernel
theorem dX6_type_24 : decode cX6_type 24 = .ok (.ireturn, 1) := by decide +kernel
theorem dX6_type_25 : decode cX6_type 25 = .ok (.iload_n 3, 1) := by decide +kernel
theorem dX6_type_26 : decode cX6_type 26 = .ok (.iconst 1, 1) := by decide +kernel
theorem dX6_type_27 : decode cX6_type 27 = .ok (.isub, 1) := by decide +kernel
theorem dX6_type_28 : decode cX6_type 28 = .ok (.istore 4, 2) := by decide +kernel
theorem dX6_type_30 : decode cX6_type 30 = .ok (.iload 4, 2) := by decide +kernel
theorem dX6_type_32 : decode cX6_type 32 = .ok (.ifCond .lt 37, 3) := by decide +kernel
theorem dX6_type_35 : decode cX6_type 35 = .ok (.aload_n 0, 1) := by decide +kernel
theorem dX6_type_36 : decode cX6_type 36 = .ok (.getfield 9, 3) := by decide +kernel
theorem dX6_type_39 : decode cX6_type 39 = .ok (.aload_n 0, 1) := by decide +kernel
theorem dX6_type_40 : decode cX6_type 40 = .ok (.getfield 65, 3) := by decide +kernel
theorem dX6_type_43 : decode cX6_type 43 = .ok (.lload_n 1, 1) := by decide +kernel
theorem dX6_type_44 : decode cX6_type 44 = .ok (.bipush 8, 2) := by decide +kernel
theorem dX6_type_46 : decode cX6_type 46 = .ok (.iload 4, 2) := by decide +kernel
theorem dX6_type_48 : decode cX6_type 48 = .ok (.imul, 1) := by decide +kernel
theorem dX6_type_49 : decode cX6_type 49 = .ok (.lushr, 1) := by decide +kernel
theorem dX6_type_50 : decode cX6_type 50 = .ok (.l2i, 1) := by decide +kernel
theorem dX6_type_51 : decode cX6_type 51 = .ok (.i2b, 1) := by decide +kernel
theorem dX6_type_52 : decode cX6_type 52 = .ok (.bastore, 1) := by decide +kernel
theorem dX6_type_53 : decode cX6_type 53 = .ok (.aload_n 0, 1) := by decide +kernel
theorem dX6_type_54 : decode cX6_type 54 = .ok (.dup, 1) := by decide +kernel
theorem dX6_type_55 : decode cX6_type 55 = .ok (.getfield 65, 3) := by decide +kernel
theorem dX6_type_58 : decode cX6_type 58 = .ok (.iconst 1, 1) := by decide +kernel
theorem dX6_type_59 : decode cX6_type 59 = .ok (.iadd, 1) := by decide +kernel
theorem dX6_type_60 : decode cX6_type 60 = .ok (.putfield 65, 3) := by decide +kernel
theorem dX6_type_63 : decode cX6_type 63 = .ok (.iinc 4 (-1), 3) := by decide +kernel
theorem dX6_type_66 : decode cX6_type 66 = .ok (.goto (-36), 3) := by decide +kernel
theorem dX6_type_69 : decode cX6_type 69 = .ok (.aload_n 0, 1) := by decide +kernel
theorem dX6_type_70 : decode cX6_type 70 = .ok (.getfield 65, 3) := by decide +kernel
theorem dX6_type_73 : decode cX6_type 73 = .ok (.ireturn, 1) := by decide +kernel
set_option maxRecDepth 20000 in
theorem ggX6_tell_X6_isTellable : GoodIn wsX6_tell wsX6_isTellable := goodIn_r _ [5, 6, 7, 4, 8] (by decide +kernel) (by decide +kernel)
set_option maxRecDepth 20000 in
theorem gX6_tell_X6_isTellable : GoodIn wsX6_tell (va_wsS RX6 68 yX6_isTellable wsX6_isTellable) := goodIn_app (goodIn_of _ (by decide +kernel)) ggX6_tell_X6_isTellable
set_option maxRecDepth 20000 in
theorem ggX6_tell_X6_tellNothing : GoodIn wsX6_tell wsX6_tellNothing := goodIn_r _ [12, 13, 14, 15, 16, 17, 18, 19, 20, 21, 22, 23, 24, 25, 26, 27, 28, 29, 30, 31, 4, 32, 33, 34, 35, 36, 37, 38, 39, 40, 65, 66, 67, 68, 69, 70, 71, 72, 73, 74, 75, 76, 77, 78, 79, 80, 81, 82, 83, 84] (by decide +kernel) (by decide +kernel)
set_option maxRecDepth 20000 in
theorem gX6_tell_X6_tellNothing : GoodIn wsX6_tell (wsV RX6 72 RX6 yX6_tellNothing wsX6_tellNothing) := goodIn_app (goodIn_of _ (by decide +kernel)) ggX6_tell_X6_tellNothing
set_option maxRecDepth 20000 in
theorem ggX6_tell_X6_tellTyped : GoodIn wsX6_tell wsX6_tellTyped := goodIn_r _ [44, 13, 45, 1, 46, 47, 48, 17, 49, 50, 19, 20, 21, 22, 23, 51, 52, 53, 54, 55, 56, 57, 58, 59, 60, 61, 62, 63, 64, 7, 4, 8, 29, 30, 31, 32, 33, 34, 35, 36, 37, 38, 39, 40, 65, 66, 67, 68, 69, 70, 71, 72, 73, 74, 75, 76, 77, 78, 79, 80, 81, 82, 83, 84] (by decide +kernel) (by decide +kernel)
set_option maxRecDepth 20000 in
theorem gX6_tell_X6_tellTyped : GoodIn wsX6_tell (wsV RX6 76 RX6 yX6_tellTyped wsX6_tellTyped) := goodIn_app (goodIn_of _ (by decide +kernel)) ggX6_tell_X6_tellTyped
theorem dX6_tell_0 : decode cX6_tell 0 = .ok (.iload_n 1, 1) := by decide +kernel
theorem dX6_tell_1 : decode cX6_tell 1 = .ok (.aload_n 0, 1) := by decide +kernel
theorem dX6_tell_2 : decode cX6_tell 2 = .ok (.getfield 65, 3) := by decide +kernel
theorem dX6_tell_5 : decode cX6_tell 5 = .ok (.invokestatic 68, 3) := by decide +kernel
theorem dX6_tell_8 : decode cX6_tell 8 = .ok (.ifCond .ne 5, 3) := by decide +kernel
theorem dX6_tell_11 : decode cX6_tell 11 = .ok (.iconst 0, 1) := by decide +kernel
theorem dX6_tell_12 : decode cX6_tell 12 = .ok (.ireturn, 1) := by decide +kernel
theorem dX6_tell_13 : decode cX6_tell 13 = .ok (.aload_n 0, 1) := by decide +kernel
theorem dX6_tell_14 : decode cX6_tell 14 = .ok (.getfield 65, 3) := by decide +kernel
theorem dX6_tell_17 : decode cX6_tell 17 = .ok (.ifCond .ne 11, 3) := by decide +kernel
theorem dX6_tell_20 : decode cX6_tell 20 = .ok (.aload_n 0, 1) := by decide +kernel
theorem dX6_tell_21 : decode cX6_tell 21 = .ok (.iload_n 1, 1) := by decide +kernel
theorem dX6_tell_22 : decode cX6_tell 22 = .ok (.invokevirtual 72, 3) := by decide +kernel
theorem dX6_tell_25 : decode cX6_tell 25 = .ok (.goto 8, 3) := by decide +kernel
theorem dX6_tell_28 : decode cX6_tell 28 = .ok (.aload_n 0, 1) := by decide +kernel
theorem dX6_tell_29 : decode cX6_tell 29 = .ok (.iload_n 1, 1) := by decide +kernel
theorem dX6_tell_30 : decode cX6_tell 30 = .ok (.invokevirtual 76, 3) := by decide +kernel
theorem dX6_tell_33 : decode cX6_tell 33 = .ok (.aload_n 0, 1) := by decide +kernel
theorem dX6_tell_34 : decode cX6_tell 34 = .ok (.iconst 0, 1) := by decide +kernel
theorem dX6_tell_35 : decode cX6_tell 35 = .ok (.putfield 65, 3) := by decide +kernel
theorem dX6_tell_38 : decode cX6_tell 38 = .ok (.iconst 1, 1) := by decide +kernel
theorem dX6_tell_39 : decode cX6_tell 39 = .ok (.ireturn, 1) := by decide +kernel
theorem dX6_set_0 : decode cX6_set 0 = .ok (.iload_n 1, 1) := by decide +kernel
theorem dX6_set_1 : decode cX6_set 1 = .ok (.ifCond .ne 22, 3) := by decide +kernel
theorem dX6_set_4 : decode cX6_set 4 = .ok (.iload_n 2, 1) := by decide +kernel
theorem dX6_set_5 : decode cX6_set 5 = .ok (.iconst 1, 1) := by decide +kernel
theorem dX6_set_6 : decode cX6_set 6 = .ok (.if_icmp .lt 17, 3) := by decide +kernel
theorem dX6_set_9 : decode cX6_set 9 = .ok (.iload_n 2, 1) := by decide +kernel
theorem dX6_set_10 : decode cX6_set 10 = .ok (.sipush 3600, 3) := by decide +kernel
theorem dX6_set_13 : decode cX6_set 13 = .ok (.if_icmp .gt 10, 3) := by decide +kernel
theorem dX6_set_16 : decode cX6_set 16 = .ok (.aload_n 0, 1) := by decide +kernel
theorem dX6_set_17 : decode cX6_set 17 = .ok (.iload_n 2, 1) := by decide +kernel
theorem dX6_set_18 : decode cX6_set 18 = .ok (.putfield 47, 3) := by decide +kernel
theorem dX6_set_21 : decode cX6_set 21 = .ok (.iconst 1, 1) := by decide +kernel
theorem dX6_set_22 : decode cX6_set 22 = .ok (.ireturn, 1) := by decide +kernel
theorem dX6_set_23 : decode cX6_set 23 = .ok (.iload_n 1, 1) := by decide +kernel
theorem dX6_set_24 : decode cX6_set 24 = .ok (.iconst 1, 1) := by decide +kernel
theorem dX6_set_25 : decode cX6_set 25 = .ok (.if_icmp .ne 21, 3) := by decide +kernel
theorem dX6_set_28 : decode cX6_set 28 = .ok (.iload_n 2, 1) := by decide +kernel
theorem dX6_set_29 : decode cX6_set 29 = .ok (.iconst 2, 1) := by decide +kernel
theorem dX6_set_30 : decode cX6_set 30 = .ok (.if_icmp .lt 16, 3) := by decide +kernel
theorem dX6_set_33 : decode cX6_set 33 = .ok (.iload_n 2, 1) := by decide +kernel
theorem dX6_set_34 : decode cX6_set 34 = .ok (.bipush 10, 2) := by decide +kernel
theorem dX6_set_36 : decode cX6_set 36 = .ok (.if_icmp .gt 10, 3) := by decide +kernel
theorem dX6_set_39 : decode cX6_set 39 = .ok (.aload_n 0, 1) := by decide +kernel
theorem dX6_set_40 : decode cX6_set 40 = .ok (.iload_n 2, 1) := by decide +kernel
theorem dX6_set_41 : decode cX6_set 41 = .ok (.putfield 51, 3) := by decide +kernel
theorem dX6_set_44 : decode cX6_set 44 = .ok (.iconst 1, 1) := by decide +kernel
theorem dX6_set_45 : decode cX6_set 45 = .ok (.ireturn, 1) := by decide +kernel
theorem dX6_set_46 : decode cX6_set 46 = .ok (.iload_n 1, 1) := by decide +kernel
theorem dX6_set_47 : decode cX6_set 47 = .ok (.iconst 2, 1) := by decide +kernel
theorem dX6_set_48 : decode cX6_set 48 = .ok (.if_icmp .ne 21, 3) := by decide +kernel
theorem dX6_set_51 : decode cX6_set 51 = .ok (.iload_n 2, 1) := by decide +kernel
theorem dX6_set_52 : decode cX6_set 52 = .ok (.iconst 1, 1) := by decide +kernel
theorem dX6_set_53 : decode cX6_set 53 = .ok (.if_icmp .lt 16, 3) := by decide +kernel
theorem dX6_set_56 : decode cX6_set 56 = .ok (.iload_n 2, 1) := by decide +kernel
theorem dX6_set_57 : decode cX6_set 57 = .ok (.bipush 8, 2) := by decide +kernel
theorem dX6_set_59 : decode cX6_set 59 = .ok (.if_icmp .gt 10, 3) := by decide +kernel
theorem dX6_set_62 : decode cX6_set 62 = .ok (.aload_n 0, 1) := by decide +kernel
theorem dX6_set_63 : decode cX6_set 63 = .ok (.iload_n 2, 1) := by decide +kernel
theorem dX6_set_64 : decode cX6_set 64 = .ok (.putfield 54, 3) := by decide +kernel
theorem dX6_set_67 : decode cX6_set 67 = .ok (.iconst 1, 1) := by decide +kernel
theorem dX6_set_68 : decode cX6_set 68 = .ok (.ireturn, 1) := by decide +kernel
theorem dX6_set_69 : decode cX6_set 69 = .ok (.iconst 0, 1) := by decide +kernel
theorem dX6_set_70 : decode cX6_set 70 = .ok (.ireturn, 1) := by decide +kernel
set_option maxRecDepth 20000 in
theorem ggX6_port_X6_isPort : GoodIn wsX6_port wsX6_isPort := goodIn_r _ [9] (by decide +kernel) (by decide +kernel)
set_option maxRecDepth 20000 in
theorem gX6_port_X6_isPort : GoodIn wsX6_port (va_wsS RX6 79 yX6_isPort wsX6_isPort) := goodIn_app (goodIn_of _ (by decide +kernel)) ggX6_port_X6_isPort
set_option maxRecDepth 20000 in
theorem ggX6_port_X4_isUp : GoodIn wsX6_port wsX4_isUp := goodIn_r _ [14, 15, 99, 100, 101, 102, 103, 104] (by decide +kernel) (by decide +kernel)
set_option maxRecDepth 20000 in
theorem gX6_port_X4_isUp : GoodIn wsX6_port (wsV RX6 83 RX4 yX4_isUp wsX4_isUp) := goodIn_app (goodIn_of _ (by decide +kernel)) ggX6_port_X4_isUp
set_option maxRecDepth 20000 in
theorem ggX6_port_X4_goUp : GoodIn wsX6_port wsX4_goUp := goodIn_r _ [19, 15, 20, 21, 99, 100, 101, 102, 103, 104] (by decide +kernel) (by decide +kernel)
set_option maxRecDepth 20000 in
theorem gX6_port_X4_goUp : GoodIn wsX6_port (wsV RX6 87 RX4 yX4_goUp wsX4_goUp) := goodIn_app (goodIn_of _ (by decide +kernel)) ggX6_port_X4_goUp
set_option maxRecDepth 20000 in
theorem ggX6_port_X4_goDown : GoodIn wsX6_port wsX4_goDown := goodIn_r _ [25, 15, 21, 26, 99, 100, 101, 102, 103, 104] (by decide +kernel) (by decide +kernel)
set_option maxRecDepth 20000 in
theorem gX6_port_X4_goDown : GoodIn wsX6_port (wsV RX6 90 RX4 yX4_goDown wsX4_goDown) := goodIn_app (goodIn_of _ (by decide +kernel)) ggX6_port_X4_goDown
set_option maxRecDepth 20000 in
theorem ggX6_port_X5_write : GoodIn wsX6_port wsX5_write := goodIn_r _ [31, 32, 33, 34, 35, 36, 37, 38, 39, 40, 41, 42, 30, 43, 44, 45, 46, 47, 48, 49, 50, 51, 52, 53, 54, 55, 56, 57, 58, 59, 60, 61, 62, 63, 64, 65, 105, 106, 107, 108, 109] (by decide +kernel) (by decide +kernel)
set_option maxRecDepth 20000 in
theorem gX6_port_X5_write : GoodIn wsX6_port (wsV RX6 93 RX5 yX5_write wsX5_write) := goodIn_app (goodIn_of _ (by decide +kernel)) ggX6_port_X5_write
set_option maxRecDepth 20000 in
theorem ggX6_port_X3_forgetAllAt : GoodIn wsX6_port wsX3_forgetAllAt := goodIn_r _ [70, 71, 72, 73, 74, 75, 76, 77, 78, 79, 80, 81, 69, 82, 83, 84, 85, 86, 110, 111, 112, 113, 114, 115] (by decide +kernel) (by decide +kernel)
set_option maxRecDepth 20000 in
theorem gX6_port_X3_forgetAllAt : GoodIn wsX6_port (wsV RX6 97 RX3 yX3_forgetAllAt wsX3_forgetAllAt) := goodIn_app (goodIn_of _ (by decide +kernel)) ggX6_port_X3_forgetAllAt
theorem dX6_port_0 : decode cX6_port 0 = .ok (.iload_n 1, 1) := by decide +kernel
theorem dX6_port_1 : decode cX6_port 1 = .ok (.invokestatic 79, 3) := by decide +kernel
theorem dX6_port_4 : decode cX6_port 4 = .ok (.ifCond .eq 34, 3) := by decide +kernel
theorem dX6_port_7 : decode cX6_port 7 = .ok (.iload_n 2, 1) := by decide +kernel
theorem dX6_port_8 : decode cX6_port 8 = .ok (.ifCond .lt 30, 3) := by decide +kernel
theorem dX6_port_11 : decode cX6_port 11 = .ok (.iload_n 2, 1) := by decide +kernel
theorem dX6_port_12 : decode cX6_port 12 = .ok (.iconst 1, 1) := by decide +kernel
theorem dX6_port_13 : decode cX6_port 13 = .ok (.if_icmp .gt 25, 3) := by decide +kernel
theorem dX6_port_16 : decode cX6_port 16 = .ok (.aload_n 0, 1) := by decide +kernel
theorem dX6_port_17 : decode cX6_port 17 = .ok (.getfield 22, 3) := by decide +kernel
theorem dX6_port_20 : decode cX6_port 20 = .ok (.iload_n 1, 1) := by decide +kernel
theorem dX6_port_21 : decode cX6_port 21 = .ok (.aaload, 1) := by decide +kernel
theorem dX6_port_22 : decode cX6_port 22 = .ok (.invokevirtual 83, 3) := by decide +kernel
theorem dX6_port_25 : decode cX6_port 25 = .ok (.iload_n 2, 1) := by decide +kernel
theorem dX6_port_26 : decode cX6_port 26 = .ok (.iconst 1, 1) := by decide +kernel
theorem dX6_port_27 : decode cX6_port 27 = .ok (.if_icmp .ne 7, 3) := by decide +kernel
theorem dX6_port_30 : decode cX6_port 30 = .ok (.iconst 1, 1) := by decide +kernel
theorem dX6_port_31 : decode cX6_port 31 = .ok (.goto 4, 3) := by decide +kernel
theorem dX6_port_34 : decode cX6_port 34 = .ok (.iconst 0, 1) := by decide +kernel
theorem dX6_port_35 : decode cX6_port 35 = .ok (.if_icmp .ne 5, 3) := by decide +kernel
theorem dX6_port_38 : decode cX6_port 38 = .ok (.iconst 0, 1) := by decide +kernel
theorem dX6_port_39 : decode cX6_port 39 = .ok (.ireturn, 1) := by decide +kernel
theorem dX6_port_40 : decode cX6_port 40 = .ok (.iload_n 2, 1) := by decide +kernel
theorem dX6_port_41 : decode cX6_port 41 = .ok (.iconst 1, 1) := by decide +kernel
theorem dX6_port_42 : decode cX6_port 42 = .ok (.if_icmp .ne 19, 3) := by decide +kernel
theorem dX6_port_45 : decode cX6_port 45 = .ok (.aload_n 0, 1) := by decide +kernel
theorem dX6_port_46 : decode cX6_port 46 = .ok (.getfield 22, 3) := by decide +kernel
theorem dX6_port_49 : decode cX6_port 49 = .ok (.iload_n 1, 1) := by decide +kernel
theorem dX6_port_50 : decode cX6_port 50 = .ok (.aaload, 1) := by decide +kernel
theorem dX6_port_51 : decode cX6_port 51 = .ok (.aload_n 0, 1) := by decide +kernel
theorem dX6_port_52 : decode cX6_port 52 = .ok (.getfield 54, 3) := by decide +kernel
theorem dX6_port_55 : decode cX6_port 55 = .ok (.invokevirtual 87, 3) := by decide +kernel
theorem dX6_port_58 : decode cX6_port 58 = .ok (.goto 33, 3) := by decide +kernel
theorem dX6_port_61 : decode cX6_port 61 = .ok (.aload_n 0, 1) := by decide +kernel
theorem dX6_port_62 : decode cX6_port 62 = .ok (.getfield 22, 3) := by decide +kernel
theorem dX6_port_65 : decode cX6_port 65 = .ok (.iload_n 1, 1) := by decide +kernel
theorem dX6_port_66 : decode cX6_port 66 = .ok (.aaload, 1) := by decide +kernel
theorem dX6_port_67 : decode cX6_port 67 = .ok (.invokevirtual 90, 3) := by decide +kernel
theorem dX6_port_70 : decode cX6_port 70 = .ok (.aload_n 0, 1) := by decide +kernel
theorem dX6_port_71 : decode cX6_port 71 = .ok (.getfield 43, 3) := by decide +kernel
theorem dX6_port_74 : decode cX6_port 74 = .ok (.iload_n 1, 1) := by decide +kernel
theorem dX6_port_75 : decode cX6_port 75 = .ok (.aload_n 0, 1) := by decide +kernel
theorem dX6_port_76 : decode cX6_port 76 = .ok (.getfield 16, 3) := by decide +kernel
theorem dX6_port_79 : decode cX6_port 79 = .ok (.iconst 0, 1) := by decide +kernel
theorem dX6_port_80 : decode cX6_port 80 = .ok (.invokevirtual 93, 3) := by decide +kernel
theorem dX6_port_83 : decode cX6_port 83 = .ok (.aload_n 0, 1) := by decide +kernel
theorem dX6_port_84 : decode cX6_port 84 = .ok (.getfield 29, 3) := by decide +kernel
theorem dX6_port_87 : decode cX6_port 87 = .ok (.iload_n 1, 1) := by decide +kernel
theorem dX6_port_88 : decode cX6_port 88 = .ok (.invokevirtual 97, 3) := by decide +kernel
theorem dX6_port_91 : decode cX6_port 91 = .ok (.iconst 1, 1) := by decide +kernel
theorem dX6_port_92 : decode cX6_port 92 = .ok (.ireturn, 1) := by decide +kernel
set_option maxRecDepth 20000 in
theorem ggX6_hear_X6_isPort : GoodIn wsX6_hear wsX6_isPort := goodIn_r _ [9] (by decide +kernel) (by decide +kernel)
set_option maxRecDepth 20000 in
theorem gX6_hear_X6_isPort : GoodIn wsX6_hear (va_wsS RX6 79 yX6_isPort wsX6_isPort) := goodIn_app (goodIn_of _ (by decide +kernel)) ggX6_hear_X6_isPort
set_option maxRecDepth 20000 in
theorem ggX6_hear_X4_isUp : GoodIn wsX6_hear wsX4_isUp := goodIn_r _ [14, 15, 173, 174, 175, 176, 177, 178] (by decide +kernel) (by decide +kernel)
set_option maxRecDepth 20000 in
theorem gX6_hear_X4_isUp : GoodIn wsX6_hear (wsV RX6 83 RX4 yX4_isUp wsX4_isUp) := goodIn_app (goodIn_of _ (by decide +kernel)) ggX6_hear_X4_isUp
set_option maxRecDepth 20000 in
theorem ggX6_hear_X1_read : GoodIn wsX6_hear wsX1_read := goodIn_r _ [20, 21, 22, 23, 24, 25, 26, 27, 28, 29, 30, 31, 32, 33, 19, 34, 35, 36, 37, 38, 39, 40, 41, 42, 43, 44, 45, 8, 46, 47, 48, 49, 50, 51, 52, 53, 54, 55, 56, 57, 58, 59, 60, 61, 62, 63, 64, 65, 66, 67, 68, 69, 70, 71, 72, 73, 74, 179, 180, 181, 182] (by decide +kernel) (by decide +kernel)
set_option maxRecDepth 20000 in
theorem gX6_hear_X1_read : GoodIn wsX6_hear (wsV RX6 100 RX1 yX1_read wsX1_read) := goodIn_app (goodIn_of _ (by decide +kernel)) ggX6_hear_X1_read
set_option maxRecDepth 20000 in
theorem ggX6_hear_X6_learn : GoodIn wsX6_hear wsX6_learn := goodIn_r _ [78, 79, 2, 1, 80, 81, 82, 83, 19, 84, 21, 85, 86, 87, 88, 89, 90, 91, 92, 93, 94, 95, 96, 97, 98, 99, 100, 101, 102, 103, 104, 105, 25, 106, 64, 72, 73, 74, 51, 52, 53, 54, 27, 107, 108, 109, 110, 111, 112, 113, 114, 59, 115, 116, 117, 118, 119, 120, 121, 122, 123, 124, 125, 126, 127, 128, 129, 130, 131, 132, 133, 134, 13, 135, 136, 137, 138, 139, 140, 141, 142, 143, 144, 145, 146, 147, 148, 149, 150, 151, 152, 153, 154, 161, 162, 163, 164, 165, 166, 167, 168, 169, 170, 171, 172, 179, 180, 183, 184, 185, 186, 187, 188, 181, 182, 173, 174, 175, 176, 177, 178] (by decide +kernel) (by decide +kernel)
set_option maxRecDepth 20000 in
theorem gX6_hear_X6_learn : GoodIn wsX6_hear (wsV RX6 104 RX6 yX6_learn wsX6_learn) := goodIn_app (goodIn_of _ (by decide +kernel)) ggX6_hear_X6_learn
set_option maxRecDepth 20000 in
theorem ggX6_hear_X4_noteHeard : GoodIn wsX6_hear wsX4_noteHeard := goodIn_r _ [158, 159, 160, 173, 174, 175, 176, 177, 178] (by decide +kernel) (by decide +kernel)
set_option maxRecDepth 20000 in
theorem gX6_hear_X4_noteHeard : GoodIn wsX6_hear (wsV RX6 108 RX4 yX4_noteHeard wsX4_noteHeard) := goodIn_app (goodIn_of _ (by decide +kernel)) ggX6_hear_X4_noteHeard
theorem dX6_hear_0 : decode cX6_hear 0 = .ok (.iload_n 1, 1) := by decide +kernel
theorem dX6_hear_1 : decode cX6_hear 1 = .ok (.invokestatic 79, 3) := by decide +kernel
theorem dX6_hear_4 : decode cX6_hear 4 = .ok (.ifCond .eq 15, 3) := by decide +kernel
theorem dX6_hear_7 : decode cX6_hear 7 = .ok (.aload_n 0, 1) := by decide +kernel
theorem dX6_hear_8 : decode cX6_hear 8 = .ok (.getfield 22, 3) := by decide +kernel
theorem dX6_hear_11 : decode cX6_hear 11 = .ok (.iload_n 1, 1) := by decide +kernel
theorem dX6_hear_12 : decode cX6_hear 12 = .ok (.aaload, 1) := by decide +kernel
theorem dX6_hear_13 : decode cX6_hear 13 = .ok (.invokevirtual 83, 3) := by decide +kernel
theorem dX6_hear_16 : decode cX6_hear 16 = .ok (.ifCond .ne 5, 3) := by decide +kernel
theorem dX6_hear_19 : decode cX6_hear 19 = .ok (.iconst (-1), 1) := by decide +kernel
theorem dX6_hear_20 : decode cX6_hear 20 = .ok (.ireturn, 1) := by decide +kernel
theorem dX6_hear_21 : decode cX6_hear 21 = .ok (.aload_n 0, 1) := by decide +kernel
theorem dX6_hear_22 : decode cX6_hear 22 = .ok (.getfield 36, 3) := by decide +kernel
theorem dX6_hear_25 : decode cX6_hear 25 = .ok (.aload_n 0, 1) := by decide +kernel
theorem dX6_hear_26 : decode cX6_hear 26 = .ok (.getfield 9, 3) := by decide +kernel
theorem dX6_hear_29 : decode cX6_hear 29 = .ok (.aload_n 0, 1) := by decide +kernel
theorem dX6_hear_30 : decode cX6_hear 30 = .ok (.getfield 65, 3) := by decide +kernel
theorem dX6_hear_33 : decode cX6_hear 33 = .ok (.invokevirtual 100, 3) := by decide +kernel
theorem dX6_hear_36 : decode cX6_hear 36 = .ok (.istore_n 2, 1) := by decide +kernel
theorem dX6_hear_37 : decode cX6_hear 37 = .ok (.aload_n 0, 1) := by decide +kernel
theorem dX6_hear_38 : decode cX6_hear 38 = .ok (.iconst 0, 1) := by decide +kernel
theorem dX6_hear_39 : decode cX6_hear 39 = .ok (.putfield 65, 3) := by decide +kernel
theorem dX6_hear_42 : decode cX6_hear 42 = .ok (.iload_n 2, 1) := by decide +kernel
theorem dX6_hear_43 : decode cX6_hear 43 = .ok (.ifCond .ne 9, 3) := by decide +kernel
theorem dX6_hear_46 : decode cX6_hear 46 = .ok (.aload_n 0, 1) := by decide +kernel
theorem dX6_hear_47 : decode cX6_hear 47 = .ok (.iload_n 1, 1) := by decide +kernel
theorem dX6_hear_48 : decode cX6_hear 48 = .ok (.invokevirtual 104, 3) := by decide +kernel
theorem dX6_hear_51 : decode cX6_hear 51 = .ok (.istore_n 2, 1) := by decide +kernel
theorem dX6_hear_52 : decode cX6_hear 52 = .ok (.aload_n 0, 1) := by decide +kernel
theorem dX6_hear_53 : decode cX6_hear 53 = .ok (.getfield 22, 3) := by decide +kernel
theorem dX6_hear_56 : decode cX6_hear 56 = .ok (.iload_n 1, 1) := by decide +kernel
theorem dX6_hear_57 : decode cX6_hear 57 = .ok (.aaload, 1) := by decide +kernel
theorem dX6_hear_58 : decode cX6_hear 58 = .ok (.iload_n 2, 1) := by decide +kernel
theorem dX6_hear_59 : decode cX6_hear 59 = .ok (.ifCond .ne 7, 3) := by decide +kernel
theorem dX6_hear_62 : decode cX6_hear 62 = .ok (.iconst 1, 1) := by decide +kernel
theorem dX6_hear_63 : decode cX6_hear 63 = .ok (.goto 4, 3) := by decide +kernel
theorem dX6_hear_66 : decode cX6_hear 66 = .ok (.iconst 0, 1) := by decide +kernel
theorem dX6_hear_67 : decode cX6_hear 67 = .ok (.invokevirtual 108, 3) := by decide +kernel
theorem dX6_hear_70 : decode cX6_hear 70 = .ok (.aload_n 0, 1) := by decide +kernel
theorem dX6_hear_71 : decode cX6_hear 71 = .ok (.iload_n 2, 1) := by decide +kernel
theorem dX6_hear_72 : decode cX6_hear 72 = .ok (.putfield 112, 3) := by decide +kernel
theorem dX6_hear_75 : decode cX6_hear 75 = .ok (.iload_n 2, 1) := by decide +kernel
theorem dX6_hear_76 : decode cX6_hear 76 = .ok (.ireturn, 1) := by decide +kernel
set_option maxRecDepth 20000 in
theorem ggX6_tick_X3_passTick : GoodIn wsX6_tick wsX3_passTick := goodIn_r _ [18, 19, 20, 21, 22, 23, 24, 25, 26, 27, 28, 29, 17, 30, 31, 32, 33, 34, 95, 96, 97, 98, 99, 100] (by decide +kernel) (by decide +kernel)
set_option maxRecDepth 20000 in
theorem gX6_tick_X3_passTick : GoodIn wsX6_tick (wsV RX6 119 RX3 yX3_passTick wsX3_passTick) := goodIn_app (goodIn_of _ (by decide +kernel)) ggX6_tick_X3_passTick
set_option maxRecDepth 20000 in
theorem ggX6_tick_X4_passTick : GoodIn wsX6_tick wsX4_passTick := goodIn_r _ [39, 40, 41, 42, 43, 101, 102, 103, 104, 105, 106] (by decide +kernel) (by decide +kernel)
set_option maxRecDepth 20000 in
theorem gX6_tick_X4_passTick : GoodIn wsX6_tick (wsV RX6 122 RX4 yX4_passTick wsX4_passTick) := goodIn_app (goodIn_of _ (by decide +kernel)) ggX6_tick_X4_passTick
set_option maxRecDepth 20000 in
theorem ggX6_tick_X5_write : GoodIn wsX6_tick wsX5_write := goodIn_r _ [48, 49, 50, 51, 52, 53, 54, 55, 56, 57, 58, 59, 47, 60, 61, 62, 63, 64, 65, 66, 67, 68, 69, 70, 71, 72, 73, 74, 75, 76, 77, 78, 79, 80, 81, 82, 107, 108, 109, 110, 111] (by decide +kernel) (by decide +kernel)
set_option maxRecDepth 20000 in
theorem gX6_tick_X5_write : GoodIn wsX6_tick (wsV RX6 93 RX5 yX5_write wsX5_write) := goodIn_app (goodIn_of _ (by decide +kernel)) ggX6_tick_X5_write
theorem dX6_tick_0 : decode cX6_tick 0 = .ok (.iload_n 1, 1) := by decide +kernel
theorem dX6_tick_1 : decode cX6_tick 1 = .ok (.iconst 1, 1) := by decide +kernel
theorem dX6_tick_2 : decode cX6_tick 2 = .ok (.if_icmp .lt 10, 3) := by decide +kernel
theorem dX6_tick_5 : decode cX6_tick 5 = .ok (.iload_n 1, 1) := by decide +kernel
theorem dX6_tick_6 : decode cX6_tick 6 = .ok (.sipush 5000, 3) := by decide +kernel
theorem dX6_tick_9 : decode cX6_tick 9 = .ok (.if_icmp .le 5, 3) := by decide +kernel
theorem dX6_tick_12 : decode cX6_tick 12 = .ok (.iconst (-1), 1) := by decide +kernel
theorem dX6_tick_13 : decode cX6_tick 13 = .ok (.ireturn, 1) := by decide +kernel
theorem dX6_tick_14 : decode cX6_tick 14 = .ok (.iconst 0, 1) := by decide +kernel
theorem dX6_tick_15 : decode cX6_tick 15 = .ok (.istore_n 2, 1) := by decide +kernel
theorem dX6_tick_16 : decode cX6_tick 16 = .ok (.iconst (-1), 1) := by decide +kernel
theorem dX6_tick_17 : decode cX6_tick 17 = .ok (.istore_n 3, 1) := by decide +kernel
theorem dX6_tick_18 : decode cX6_tick 18 = .ok (.iconst 0, 1) := by decide +kernel
theorem dX6_tick_19 : decode cX6_tick 19 = .ok (.istore 4, 2) := by decide +kernel
theorem dX6_tick_21 : decode cX6_tick 21 = .ok (.iload 4, 2) := by decide +kernel
theorem dX6_tick_23 : decode cX6_tick 23 = .ok (.iload_n 1, 1) := by decide +kernel
theorem dX6_tick_24 : decode cX6_tick 24 = .ok (.if_icmp .ge 67, 3) := by decide +kernel
theorem dX6_tick_27 : decode cX6_tick 27 = .ok (.aload_n 0, 1) := by decide +kernel
theorem dX6_tick_28 : decode cX6_tick 28 = .ok (.aload_n 0, 1) := by decide +kernel
theorem dX6_tick_29 : decode cX6_tick 29 = .ok (.getfield 115, 3) := by decide +kernel
theorem dX6_tick_32 : decode cX6_tick 32 = .ok (.iconst 1, 1) := by decide +kernel
theorem dX6_tick_33 : decode cX6_tick 33 = .ok (.iadd, 1) := by decide +kernel
theorem dX6_tick_34 : decode cX6_tick 34 = .ok (.ldc 118, 2) := by decide +kernel
theorem dX6_tick_36 : decode cX6_tick 36 = .ok (.iand, 1) := by decide +kernel
theorem dX6_tick_37 : decode cX6_tick 37 = .ok (.putfield 115, 3) := by decide +kernel
theorem dX6_tick_40 : decode cX6_tick 40 = .ok (.aload_n 0, 1) := by decide +kernel
theorem dX6_tick_41 : decode cX6_tick 41 = .ok (.getfield 29, 3) := by decide +kernel
theorem dX6_tick_44 : decode cX6_tick 44 = .ok (.invokevirtual 119, 3) := by decide +kernel
theorem dX6_tick_47 : decode cX6_tick 47 = .ok (.iconst 0, 1) := by decide +kernel
theorem dX6_tick_48 : decode cX6_tick 48 = .ok (.istore 5, 2) := by decide +kernel
theorem dX6_tick_50 : decode cX6_tick 50 = .ok (.iload 5, 2) := by decide +kernel
theorem dX6_tick_52 : decode cX6_tick 52 = .ok (.iconst 4, 1) := by decide +kernel
theorem dX6_tick_53 : decode cX6_tick 53 = .ok (.if_icmp .ge 32, 3) := by decide +kernel
theorem dX6_tick_56 : decode cX6_tick 56 = .ok (.aload_n 0, 1) := by decide +kernel
theorem dX6_tick_57 : decode cX6_tick 57 = .ok (.getfield 22, 3) := by decide +kernel
theorem dX6_tick_60 : decode cX6_tick 60 = .ok (.iload 5, 2) := by decide +kernel
theorem dX6_tick_62 : decode cX6_tick 62 = .ok (.aaload, 1) := by decide +kernel
theorem dX6_tick_63 : decode cX6_tick 63 = .ok (.aload_n 0, 1) := by decide +kernel
theorem dX6_tick_64 : decode cX6_tick 64 = .ok (.getfield 47, 3) := by decide +kernel
theorem dX6_tick_67 : decode cX6_tick 67 = .ok (.invokevirtual 122, 3) := by decide +kernel
theorem dX6_tick_70 : decode cX6_tick 70 = .ok (.ifCond .eq 9, 3) := by decide +kernel
theorem dX6_tick_73 : decode cX6_tick 73 = .ok (.iinc 2 1, 3) := by decide +kernel
theorem dX6_tick_76 : decode cX6_tick 76 = .ok (.iload 5, 2) := by decide +kernel
theorem dX6_tick_78 : decode cX6_tick 78 = .ok (.istore_n 3, 1) := by decide +kernel
theorem dX6_tick_79 : decode cX6_tick 79 = .ok (.iinc 5 1, 3) := by decide +kernel
theorem dX6_tick_82 : decode cX6_tick 82 = .ok (.goto (-32), 3) := by decide +kernel
theorem dX6_tick_85 : decode cX6_tick 85 = .ok (.iinc 4 1, 3) := by decide +kernel
theorem dX6_tick_88 : decode cX6_tick 88 = .ok (.goto (-67), 3) := by decide +kernel
theorem dX6_tick_91 : decode cX6_tick 91 = .ok (.iload_n 3, 1) := by decide +kernel
theorem dX6_tick_92 : decode cX6_tick 92 = .ok (.iconst (-1), 1) := by decide +kernel
theorem dX6_tick_93 : decode cX6_tick 93 = .ok (.if_icmp .eq 31, 3) := by decide +kernel
theorem dX6_tick_96 : decode cX6_tick 96 = .ok (.aload_n 0, 1) := by decide +kernel
theorem dX6_tick_97 : decode cX6_tick 97 = .ok (.getfield 43, 3) := by decide +kernel
theorem dX6_tick_100 : decode cX6_tick 100 = .ok (.iload_n 3, 1) := by decide +kernel
theorem dX6_tick_101 : decode cX6_tick 101 = .ok (.aload_n 0, 1) := by decide +kernel
theorem dX6_tick_102 : decode cX6_tick 102 = .ok (.getfield 16, 3) := by decide +kernel
theorem dX6_tick_105 : decode cX6_tick 105 = .ok (.aload_n 0, 1) := by decide +kernel
theorem dX6_tick_106 : decode cX6_tick 106 = .ok (.getfield 47, 3) := by decide +kernel
theorem dX6_tick_109 : decode cX6_tick 109 = .ok (.aload_n 0, 1) := by decide +kernel
theorem dX6_tick_110 : decode cX6_tick 110 = .ok (.getfield 51, 3) := by decide +kernel
theorem dX6_tick_113 : decode cX6_tick 113 = .ok (.imul, 1) := by decide +kernel
theorem dX6_tick_114 : decode cX6_tick 114 = .ok (.iconst 1, 1) := by decide +kernel
theorem dX6_tick_115 : decode cX6_tick 115 = .ok (.iadd, 1) := by decide +kernel
theorem dX6_tick_116 : decode cX6_tick 116 = .ok (.ldc 124, 2) := by decide +kernel
theorem dX6_tick_118 : decode cX6_tick 118 = .ok (.invokestatic 125, 3) := by decide +kernel
theorem dX6_tick_121 : decode cX6_tick 121 = .ok (.invokevirtual 93, 3) := by decide +kernel
theorem dX6_tick_124 : decode cX6_tick 124 = .ok (.iload_n 2, 1) := by decide +kernel
theorem dX6_tick_125 : decode cX6_tick 125 = .ok (.ireturn, 1) := by decide +kernel
set_option maxRecDepth 20000 in
theorem ggX6_about_X6_isPort : GoodIn wsX6_about wsX6_isPort := goodIn_r _ [6] (by decide +kernel) (by decide +kernel)
set_option maxRecDepth 20000 in
theorem gX6_about_X6_isPort : GoodIn wsX6_about (va_wsS RX6 79 yX6_isPort wsX6_isPort) := goodIn_app (goodIn_of _ (by decide +kernel)) ggX6_about_X6_isPort
set_option maxRecDepth 20000 in
theorem ggX6_about_X3_sizeAt : GoodIn wsX6_about wsX3_sizeAt := goodIn_r _ [11, 12, 13, 14, 15, 16, 17, 18, 19, 43, 44, 45, 46, 47, 48] (by decide +kernel) (by decide +kernel)
set_option maxRecDepth 20000 in
theorem gX6_about_X3_sizeAt : GoodIn wsX6_about (wsV RX6 131 RX3 yX3_sizeAt wsX3_sizeAt) := goodIn_app (goodIn_of _ (by decide +kernel)) ggX6_about_X3_sizeAt
set_option maxRecDepth 20000 in
theorem ggX6_about_X4_tellAbout : GoodIn wsX6_about wsX4_tellAbout := goodIn_r _ [24, 25, 26, 27, 28, 29, 30, 49, 50, 51, 52, 53, 54] (by decide +kernel) (by decide +kernel)
set_option maxRecDepth 20000 in
theorem gX6_about_X4_tellAbout : GoodIn wsX6_about (wsV RX6 134 RX4 yX4_tellAbout wsX4_tellAbout) := goodIn_app (goodIn_of _ (by decide +kernel)) ggX6_about_X4_tellAbout
theorem dX6_about_0 : decode cX6_about 0 = .ok (.iload_n 1, 1) := by decide +kernel
theorem dX6_about_1 : decode cX6_about 1 = .ok (.invokestatic 79, 3) := by decide +kernel
theorem dX6_about_4 : decode cX6_about 4 = .ok (.ifCond .ne 5, 3) := by decide +kernel
theorem dX6_about_7 : decode cX6_about 7 = .ok (.iconst (-1), 1) := by decide +kernel
theorem dX6_about_8 : decode cX6_about 8 = .ok (.ireturn, 1) := by decide +kernel
theorem dX6_about_9 : decode cX6_about 9 = .ok (.iload_n 2, 1) := by decide +kernel
theorem dX6_about_10 : decode cX6_about 10 = .ok (.iconst 4, 1) := by decide +kernel
theorem dX6_about_11 : decode cX6_about 11 = .ok (.if_icmp .ne 12, 3) := by decide +kernel
theorem dX6_about_14 : decode cX6_about 14 = .ok (.aload_n 0, 1) := by decide +kernel
theorem dX6_about_15 : decode cX6_about 15 = .ok (.getfield 29, 3) := by decide +kernel
theorem dX6_about_18 : decode cX6_about 18 = .ok (.iload_n 1, 1) := by decide +kernel
theorem dX6_about_19 : decode cX6_about 19 = .ok (.invokevirtual 131, 3) := by decide +kernel
theorem dX6_about_22 : decode cX6_about 22 = .ok (.ireturn, 1) := by decide +kernel
theorem dX6_about_23 : decode cX6_about 23 = .ok (.aload_n 0, 1) := by decide +kernel
theorem dX6_about_24 : decode cX6_about 24 = .ok (.getfield 22, 3) := by decide +kernel
theorem dX6_about_27 : decode cX6_about 27 = .ok (.iload_n 1, 1) := by decide +kernel
theorem dX6_about_28 : decode cX6_about 28 = .ok (.aaload, 1) := by decide +kernel
theorem dX6_about_29 : decode cX6_about 29 = .ok (.iload_n 2, 1) := by decide +kernel
theorem dX6_about_30 : decode cX6_about 30 = .ok (.invokevirtual 134, 3) := by decide +kernel
theorem dX6_about_33 : decode cX6_about 33 = .ok (.ireturn, 1) := by decide +kernel
set_option maxRecDepth 20000 in
theorem ggX6_count_X3_size : GoodIn wsX6_count wsX3_size := goodIn_r _ [10, 11, 35, 36] (by decide +kernel) (by decide +kernel)
set_option maxRecDepth 20000 in
theorem gX6_count_X3_size : GoodIn wsX6_count (wsV RX6 137 RX3 yX3_size wsX3_size) := goodIn_app (goodIn_of _ (by decide +kernel)) ggX6_count_X3_size
set_option maxRecDepth 20000 in
theorem ggX6_count_X5_portOf : GoodIn wsX6_count wsX5_portOf := goodIn_r _ [16, 17, 37, 38, 39] (by decide +kernel) (by decide +kernel)
set_option maxRecDepth 20000 in
theorem gX6_count_X5_portOf : GoodIn wsX6_count (wsV RX6 141 RX5 yX5_portOf wsX5_portOf) := goodIn_app (goodIn_of _ (by decide +kernel)) ggX6_count_X5_portOf
set_option maxRecDepth 20000 in
theorem ggX6_count_X5_length : GoodIn wsX6_count wsX5_length := goodIn_r _ [21, 22, 37, 38, 39] (by decide +kernel) (by decide +kernel)
set_option maxRecDepth 20000 in
theorem gX6_count_X5_length : GoodIn wsX6_count (wsV RX6 144 RX5 yX5_length wsX5_length) := goodIn_app (goodIn_of _ (by decide +kernel)) ggX6_count_X5_length
theorem dX6_count_0 : decode cX6_count 0 = .ok (.iload_n 1, 1) := by decide +kernel
theorem dX6_count_1 : decode cX6_count 1 = .ok (.tableswitch 78 0 5 #[39, 47, 52, 57, 62, 70], 39) := by decide +kernel
theorem dX6_count_40 : decode cX6_count 40 = .ok (.aload_n 0, 1) := by decide +kernel
theorem dX6_count_41 : decode cX6_count 41 = .ok (.getfield 29, 3) := by decide +kernel
theorem dX6_count_44 : decode cX6_count 44 = .ok (.invokevirtual 137, 3) := by decide +kernel
theorem dX6_count_47 : decode cX6_count 47 = .ok (.ireturn, 1) := by decide +kernel
theorem dX6_count_48 : decode cX6_count 48 = .ok (.aload_n 0, 1) := by decide +kernel
theorem dX6_count_49 : decode cX6_count 49 = .ok (.getfield 115, 3) := by decide +kernel
theorem dX6_count_52 : decode cX6_count 52 = .ok (.ireturn, 1) := by decide +kernel
theorem dX6_count_53 : decode cX6_count 53 = .ok (.aload_n 0, 1) := by decide +kernel
theorem dX6_count_54 : decode cX6_count 54 = .ok (.getfield 112, 3) := by decide +kernel
theorem dX6_count_57 : decode cX6_count 57 = .ok (.ireturn, 1) := by decide +kernel
theorem dX6_count_58 : decode cX6_count 58 = .ok (.aload_n 0, 1) := by decide +kernel
theorem dX6_count_59 : decode cX6_count 59 = .ok (.getfield 65, 3) := by decide +kernel
theorem dX6_count_62 : decode cX6_count 62 = .ok (.ireturn, 1) := by decide +kernel
theorem dX6_count_63 : decode cX6_count 63 = .ok (.aload_n 0, 1) := by decide +kernel
theorem dX6_count_64 : decode cX6_count 64 = .ok (.getfield 43, 3) := by decide +kernel
theorem dX6_count_67 : decode cX6_count 67 = .ok (.invokevirtual 141, 3) := by decide +kernel
theorem dX6_count_70 : decode cX6_count 70 = .ok (.ireturn, 1) := by decide +kernel
theorem dX6_count_71 : decode cX6_count 71 = .ok (.aload_n 0, 1) := by decide +kernel
theorem dX6_count_72 : decode cX6_count 72 = .ok (.getfield 43, 3) := by decide +kernel
theorem dX6_count_75 : decode cX6_count 75 = .ok (.invokevirtual 144, 3) := by decide +kernel
theorem dX6_count_78 : decode cX6_count 78 = .ok (.ireturn, 1) := by decide +kernel
theorem dX6_count_79 : decode cX6_count 79 = .ok (.iconst (-1), 1) := by decide +kernel
theorem dX6_count_80 : decode cX6_count 80 = .ok (.ireturn, 1) := by decide +kernel
set_option maxRecDepth 20000 in
theorem ggX6_sent_X5_byteAt : GoodIn wsX6_sent wsX5_byteAt := goodIn_r _ [6, 7, 8, 21, 22, 23] (by decide +kernel) (by decide +kernel)
set_option maxRecDepth 20000 in
theorem gX6_sent_X5_byteAt : GoodIn wsX6_sent (wsV RX6 147 RX5 yX5_byteAt wsX5_byteAt) := goodIn_app (goodIn_of _ (by decide +kernel)) ggX6_sent_X5_byteAt
theorem dX6_sent_0 : decode cX6_sent 0 = .ok (.aload_n 0, 1) := by decide +kernel
theorem dX6_sent_1 : decode cX6_sent 1 = .ok (.getfield 43, 3) := by decide +kernel
theorem dX6_sent_4 : decode cX6_sent 4 = .ok (.iload_n 1, 1) := by decide +kernel
theorem dX6_sent_5 : decode cX6_sent 5 = .ok (.invokevirtual 147, 3) := by decide +kernel
theorem dX6_sent_8 : decode cX6_sent 8 = .ok (.ireturn, 1) := by decide +kernel
set_option maxRecDepth 20000 in
theorem ggX6_neighbor_X3_has : GoodIn wsX6_neighbor wsX3_has := goodIn_r _ [6, 7, 48, 49] (by decide +kernel) (by decide +kernel)
set_option maxRecDepth 20000 in
theorem gX6_neighbor_X3_has : GoodIn wsX6_neighbor (wsV RX6 150 RX3 yX3_has wsX3_has) := goodIn_app (goodIn_of _ (by decide +kernel)) ggX6_neighbor_X3_has
set_option maxRecDepth 20000 in
theorem ggX6_neighbor_X3_at : GoodIn wsX6_neighbor wsX3_at := goodIn_r _ [11, 12, 48, 49] (by decide +kernel) (by decide +kernel)
set_option maxRecDepth 20000 in
theorem gX6_neighbor_X3_at : GoodIn wsX6_neighbor (wsV RX6 153 RX3 yX3_at wsX3_at) := goodIn_app (goodIn_of _ (by decide +kernel)) ggX6_neighbor_X3_at
set_option maxRecDepth 20000 in
theorem ggX6_neighbor_X2_tellAbout : GoodIn wsX6_neighbor wsX2_tellAbout := goodIn_r _ [17, 18, 19, 20, 21, 22, 23, 24, 25, 26, 27, 28, 29, 30, 31, 32, 33, 34, 35, 50, 51, 52, 53, 54, 55] (by decide +kernel) (by decide +kernel)
set_option maxRecDepth 20000 in
theorem gX6_neighbor_X2_tellAbout : GoodIn wsX6_neighbor (wsV RX6 157 RX2 yX2_tellAbout wsX2_tellAbout) := goodIn_app (goodIn_of _ (by decide +kernel)) ggX6_neighbor_X2_tellAbout
theorem dX6_neighbor_0 : decode cX6_neighbor 0 = .ok (.aload_n 0, 1) := by decide +kernel
theorem dX6_neighbor_1 : decode cX6_neighbor 1 = .ok (.getfield 29, 3) := by decide +kernel
theorem dX6_neighbor_4 : decode cX6_neighbor 4 = .ok (.iload_n 1, 1) := by decide +kernel
theorem dX6_neighbor_5 : decode cX6_neighbor 5 = .ok (.invokevirtual 150, 3) := by decide +kernel
theorem dX6_neighbor_8 : decode cX6_neighbor 8 = .ok (.ifCond .ne 5, 3) := by decide +kernel
theorem dX6_neighbor_11 : decode cX6_neighbor 11 = .ok (.iconst (-1), 1) := by decide +kernel
theorem dX6_neighbor_12 : decode cX6_neighbor 12 = .ok (.ireturn, 1) := by decide +kernel
theorem dX6_neighbor_13 : decode cX6_neighbor 13 = .ok (.aload_n 0, 1) := by decide +kernel
theorem dX6_neighbor_14 : decode cX6_neighbor 14 = .ok (.getfield 29, 3) := by decide +kernel
theorem dX6_neighbor_17 : decode cX6_neighbor 17 = .ok (.iload_n 1, 1) := by decide +kernel
theorem dX6_neighbor_18 : decode cX6_neighbor 18 = .ok (.invokevirtual 153, 3) := by decide +kernel
theorem dX6_neighbor_21 : decode cX6_neighbor 21 = .ok (.iload_n 2, 1) := by decide +kernel
theorem dX6_neighbor_22 : decode cX6_neighbor 22 = .ok (.invokevirtual 157, 3) := by decide +kernel
theorem dX6_neighbor_25 : decode cX6_neighbor 25 = .ok (.ireturn, 1) := by decide +kernel
set_option maxRecDepth 20000 in
theorem ggX6_content_X3_has : GoodIn wsX6_content wsX3_has := goodIn_r _ [6, 7, 46, 47] (by decide +kernel) (by decide +kernel)
set_option maxRecDepth 20000 in
theorem gX6_content_X3_has : GoodIn wsX6_content (wsV RX6 150 RX3 yX3_has wsX3_has) := goodIn_app (goodIn_of _ (by decide +kernel)) ggX6_content_X3_has
set_option maxRecDepth 20000 in
theorem ggX6_content_X3_at : GoodIn wsX6_content wsX3_at := goodIn_r _ [11, 12, 46, 47] (by decide +kernel) (by decide +kernel)
set_option maxRecDepth 20000 in
theorem gX6_content_X3_at : GoodIn wsX6_content (wsV RX6 153 RX3 yX3_at wsX3_at) := goodIn_app (goodIn_of _ (by decide +kernel)) ggX6_content_X3_at
set_option maxRecDepth 20000 in
theorem ggX6_content_X2_contents : GoodIn wsX6_content wsX2_contents := goodIn_r _ [17, 18, 48, 49, 50, 51] (by decide +kernel) (by decide +kernel)
set_option maxRecDepth 20000 in
theorem gX6_content_X2_contents : GoodIn wsX6_content (wsV RX6 160 RX2 yX2_contents wsX2_contents) := goodIn_app (goodIn_of _ (by decide +kernel)) ggX6_content_X2_contents
set_option maxRecDepth 20000 in
theorem ggX6_content_X0_sizeOf : GoodIn wsX6_content wsX0_sizeOf := goodIn_r _ [23, 24, 52, 53] (by decide +kernel) (by decide +kernel)
set_option maxRecDepth 20000 in
theorem gX6_content_X0_sizeOf : GoodIn wsX6_content (wsV RX6 164 RX0 yX0_sizeOf wsX0_sizeOf) := goodIn_app (goodIn_of _ (by decide +kernel)) ggX6_content_X0_sizeOf
set_option maxRecDepth 20000 in
theorem ggX6_content_X0_byteAt : GoodIn wsX6_content wsX0_byteAt := goodIn_r _ [28, 29, 30, 20, 21, 22, 23, 24, 31, 32, 33, 52, 53] (by decide +kernel) (by decide +kernel)
set_option maxRecDepth 20000 in
theorem gX6_content_X0_byteAt : GoodIn wsX6_content (wsV RX6 167 RX0 yX0_byteAt wsX0_byteAt) := goodIn_app (goodIn_of _ (by decide +kernel)) ggX6_content_X0_byteAt
theorem dX6_content_0 : decode cX6_content 0 = .ok (.aload_n 0, 1) := by decide +kernel
theorem dX6_content_1 : decode cX6_content 1 = .ok (.getfield 29, 3) := by decide +kernel
theorem dX6_content_4 : decode cX6_content 4 = .ok (.iload_n 1, 1) := by decide +kernel
theorem dX6_content_5 : decode cX6_content 5 = .ok (.invokevirtual 150, 3) := by decide +kernel
theorem dX6_content_8 : decode cX6_content 8 = .ok (.ifCond .ne 5, 3) := by decide +kernel
theorem dX6_content_11 : decode cX6_content 11 = .ok (.iconst (-1), 1) := by decide +kernel
theorem dX6_content_12 : decode cX6_content 12 = .ok (.ireturn, 1) := by decide +kernel
theorem dX6_content_13 : decode cX6_content 13 = .ok (.aload_n 0, 1) := by decide +kernel
theorem dX6_content_14 : decode cX6_content 14 = .ok (.getfield 29, 3) := by decide +kernel
theorem dX6_content_17 : decode cX6_content 17 = .ok (.iload_n 1, 1) := by decide +kernel
theorem dX6_content_18 : decode cX6_content 18 = .ok (.invokevirtual 153, 3) := by decide +kernel
theorem dX6_content_21 : decode cX6_content 21 = .ok (.invokevirtual 160, 3) := by decide +kernel
theorem dX6_content_24 : decode cX6_content 24 = .ok (.astore 4, 2) := by decide +kernel
theorem dX6_content_26 : decode cX6_content 26 = .ok (.iload_n 3, 1) := by decide +kernel
theorem dX6_content_27 : decode cX6_content 27 = .ok (.iconst (-1), 1) := by decide +kernel
theorem dX6_content_28 : decode cX6_content 28 = .ok (.if_icmp .ne 12, 3) := by decide +kernel
theorem dX6_content_31 : decode cX6_content 31 = .ok (.aload 4, 2) := by decide +kernel
theorem dX6_content_33 : decode cX6_content 33 = .ok (.iload_n 2, 1) := by decide +kernel
theorem dX6_content_34 : decode cX6_content 34 = .ok (.invokevirtual 164, 3) := by decide +kernel
theorem dX6_content_37 : decode cX6_content 37 = .ok (.goto 10, 3) := by decide +kernel
theorem dX6_content_40 : decode cX6_content 40 = .ok (.aload 4, 2) := by decide +kernel
theorem dX6_content_42 : decode cX6_content 42 = .ok (.iload_n 2, 1) := by decide +kernel
theorem dX6_content_43 : decode cX6_content 43 = .ok (.iload_n 3, 1) := by decide +kernel
theorem dX6_content_44 : decode cX6_content 44 = .ok (.invokevirtual 167, 3) := by decide +kernel
theorem dX6_content_47 : decode cX6_content 47 = .ok (.ireturn, 1) := by decide +kernel
set_option maxRecDepth 20000 in
theorem ggX6_check_X3_size : GoodIn wsX6_check wsX3_size := goodIn_r _ [7, 8, 71, 72] (by decide +kernel) (by decide +kernel)
set_option maxRecDepth 20000 in
theorem gX6_check_X3_size : GoodIn wsX6_check (wsV RX6 137 RX3 yX3_size wsX3_size) := goodIn_app (goodIn_of _ (by decide +kernel)) ggX6_check_X3_size
set_option maxRecDepth 20000 in
theorem ggX6_check_X3_at : GoodIn wsX6_check wsX3_at := goodIn_r _ [12, 13, 71, 72] (by decide +kernel) (by decide +kernel)
set_option maxRecDepth 20000 in
theorem gX6_check_X3_at : GoodIn wsX6_check (wsV RX6 153 RX3 yX3_at wsX3_at) := goodIn_app (goodIn_of _ (by decide +kernel)) ggX6_check_X3_at
set_option maxRecDepth 20000 in
theorem ggX6_check_X2_portOf : GoodIn wsX6_check wsX2_portOf := goodIn_r _ [18, 19, 73, 74, 75, 76] (by decide +kernel) (by decide +kernel)
set_option maxRecDepth 20000 in
theorem gX6_check_X2_portOf : GoodIn wsX6_check (wsV RX6 169 RX2 yX2_portOf wsX2_portOf) := goodIn_app (goodIn_of _ (by decide +kernel)) ggX6_check_X2_portOf
set_option maxRecDepth 20000 in
theorem ggX6_check_X6_isPort : GoodIn wsX6_check wsX6_isPort := goodIn_r _ [23] (by decide +kernel) (by decide +kernel)
set_option maxRecDepth 20000 in
theorem gX6_check_X6_isPort : GoodIn wsX6_check (va_wsS RX6 79 yX6_isPort wsX6_isPort) := goodIn_app (goodIn_of _ (by decide +kernel)) ggX6_check_X6_isPort
set_option maxRecDepth 20000 in
theorem ggX6_check_X4_isUp : GoodIn wsX6_check wsX4_isUp := goodIn_r _ [28, 29, 77, 78, 79, 80, 81, 82] (by decide +kernel) (by decide +kernel)
set_option maxRecDepth 20000 in
theorem gX6_check_X4_isUp : GoodIn wsX6_check (wsV RX6 83 RX4 yX4_isUp wsX4_isUp) := goodIn_app (goodIn_of _ (by decide +kernel)) ggX6_check_X4_isUp
set_option maxRecDepth 20000 in
theorem ggX6_check_X2_contents : GoodIn wsX6_check wsX2_contents := goodIn_r _ [33, 34, 73, 74, 75, 76] (by decide +kernel) (by decide +kernel)
set_option maxRecDepth 20000 in
theorem gX6_check_X2_contents : GoodIn wsX6_check (wsV RX6 160 RX2 yX2_contents wsX2_contents) := goodIn_app (goodIn_of _ (by decide +kernel)) ggX6_check_X2_contents
set_option maxRecDepth 20000 in
theorem ggX6_check_X3_find : GoodIn wsX6_check wsX3_find := goodIn_r _ [38, 8, 13, 39, 15, 16, 17, 18, 19, 40, 31, 32, 33, 34, 41, 42, 43, 44, 45, 46, 47, 48, 49, 50, 51, 52, 53, 54, 55, 56, 57, 58, 71, 72, 73, 74, 75, 76, 83, 84] (by decide +kernel) (by decide +kernel)
set_option maxRecDepth 20000 in
theorem gX6_check_X3_find : GoodIn wsX6_check (wsV RX6 170 RX3 yX3_find wsX3_find) := goodIn_app (goodIn_of _ (by decide +kernel)) ggX6_check_X3_find
theorem dX6_check_0 : decode cX6_check 0 = .ok (.iconst 0, 1) := by decide +kernel
theorem dX6_check_1 : decode cX6_check 1 = .ok (.istore_n 1, 1) := by decide +kernel
theorem dX6_check_2 : decode cX6_check 2 = .ok (.iload_n 1, 1) := by decide +kernel
theorem dX6_check_3 : decode cX6_check 3 = .ok (.aload_n 0, 1) := by decide +kernel
theorem dX6_check_4 : decode cX6_check 4 = .ok (.getfield 29, 3) := by decide +kernel
theorem dX6_check_7 : decode cX6_check 7 = .ok (.invokevirtual 137, 3) := by decide +kernel
theorem dX6_check_10 : decode cX6_check 10 = .ok (.if_icmp .ge 65, 3) := by decide +kernel
theorem dX6_check_13 : decode cX6_check 13 = .ok (.aload_n 0, 1) := by decide +kernel
theorem dX6_check_14 : decode cX6_check 14 = .ok (.getfield 29, 3) := by decide +kernel
theorem dX6_check_17 : decode cX6_check 17 = .ok (.iload_n 1, 1) := by decide +kernel
theorem dX6_check_18 : decode cX6_check 18 = .ok (.invokevirtual 153, 3) := by decide +kernel
theorem dX6_check_21 : decode cX6_check 21 = .ok (.invokevirtual 169, 3) := by decide +kernel
theorem dX6_check_24 : decode cX6_check 24 = .ok (.istore_n 2, 1) := by decide +kernel
theorem dX6_check_25 : decode cX6_check 25 = .ok (.iload_n 2, 1) := by decide +kernel
theorem dX6_check_26 : decode cX6_check 26 = .ok (.invokestatic 79, 3) := by decide +kernel
theorem dX6_check_29 : decode cX6_check 29 = .ok (.ifCond .eq 38, 3) := by decide +kernel
theorem dX6_check_32 : decode cX6_check 32 = .ok (.aload_n 0, 1) := by decide +kernel
theorem dX6_check_33 : decode cX6_check 33 = .ok (.getfield 22, 3) := by decide +kernel
theorem dX6_check_36 : decode cX6_check 36 = .ok (.iload_n 2, 1) := by decide +kernel
theorem dX6_check_37 : decode cX6_check 37 = .ok (.aaload, 1) := by decide +kernel
theorem dX6_check_38 : decode cX6_check 38 = .ok (.invokevirtual 83, 3) := by decide +kernel
theorem dX6_check_41 : decode cX6_check 41 = .ok (.ifCond .eq 26, 3) := by decide +kernel
theorem dX6_check_44 : decode cX6_check 44 = .ok (.aload_n 0, 1) := by decide +kernel
theorem dX6_check_45 : decode cX6_check 45 = .ok (.getfield 29, 3) := by decide +kernel
theorem dX6_check_48 : decode cX6_check 48 = .ok (.iload_n 2, 1) := by decide +kernel
theorem dX6_check_49 : decode cX6_check 49 = .ok (.aload_n 0, 1) := by decide +kernel
theorem dX6_check_50 : decode cX6_check 50 = .ok (.getfield 29, 3) := by decide +kernel
theorem dX6_check_53 : decode cX6_check 53 = .ok (.iload_n 1, 1) := by decide +kernel
theorem dX6_check_54 : decode cX6_check 54 = .ok (.invokevirtual 153, 3) := by decide +kernel
theorem dX6_check_57 : decode cX6_check 57 = .ok (.invokevirtual 160, 3) := by decide +kernel
theorem dX6_check_60 : decode cX6_check 60 = .ok (.invokevirtual 170, 3) := by decide +kernel
theorem dX6_check_63 : decode cX6_check 63 = .ok (.iload_n 1, 1) := by decide +kernel
theorem dX6_check_64 : decode cX6_check 64 = .ok (.if_icmp .eq 5, 3) := by decide +kernel
theorem dX6_check_67 : decode cX6_check 67 = .ok (.iconst 0, 1) := by decide +kernel
theorem dX6_check_68 : decode cX6_check 68 = .ok (.ireturn, 1) := by decide +kernel
theorem dX6_check_69 : decode cX6_check 69 = .ok (.iinc 1 1, 3) := by decide +kernel
theorem dX6_check_72 : decode cX6_check 72 = .ok (.goto (-70), 3) := by decide +kernel
theorem dX6_check_75 : decode cX6_check 75 = .ok (.iconst 1, 1) := by decide +kernel
theorem dX6_check_76 : decode cX6_check 76 = .ok (.ireturn, 1) := by decide +kernel
theorem dX6_isPort_0 : decode cX6_isPort 0 = .ok (.iload_n 0, 1) := by decide +kernel
theorem dX6_isPort_1 : decode cX6_isPort 1 = .ok (.ifCond .lt 12, 3) := by decide +kernel
theorem dX6_isPort_4 : decode cX6_isPort 4 = .ok (.iload_n 0, 1) := by decide +kernel
theorem dX6_isPort_5 : decode cX6_isPort 5 = .ok (.iconst 4, 1) := by decide +kernel
theorem dX6_isPort_6 : decode cX6_isPort 6 = .ok (.if_icmp .ge 7, 3) := by decide +kernel
theorem dX6_isPort_9 : decode cX6_isPort 9 = .ok (.iconst 1, 1) := by decide +kernel
theorem dX6_isPort_10 : decode cX6_isPort 10 = .ok (.goto 4, 3) := by decide +kernel
theorem dX6_isPort_13 : decode cX6_isPort 13 = .ok (.iconst 0, 1) := by decide +kernel
theorem dX6_isPort_14 : decode cX6_isPort 14 = .ok (.ireturn, 1) := by decide +kernel
set_option maxRecDepth 20000 in
theorem ggX6_isTellable_X6_isMore : GoodIn wsX6_isTellable wsX6_isMore := goodIn_r _ [4] (by decide +kernel) (by decide +kernel)
set_option maxRecDepth 20000 in
theorem gX6_isTellable_X6_isMore : GoodIn wsX6_isTellable (va_wsS RX6 174 yX6_isMore wsX6_isMore) := goodIn_app (goodIn_of _ (by decide +kernel)) ggX6_isTellable_X6_isMore
theorem dX6_isTellable_0 : decode cX6_isTellable 0 = .ok (.iload_n 0, 1) := by decide +kernel
theorem dX6_isTellable_1 : decode cX6_isTellable 1 = .ok (.iconst 1, 1) := by decide +kernel
theorem dX6_isTellable_2 : decode cX6_isTellable 2 = .ok (.if_icmp .eq 8, 3) := by decide +kernel
theorem dX6_isTellable_5 : decode cX6_isTellable 5 = .ok (.iload_n 0, 1) := by decide +kernel
theorem dX6_isTellable_6 : decode cX6_isTellable 6 = .ok (.iconst 2, 1) := by decide +kernel
theorem dX6_isTellable_7 : decode cX6_isTellable 7 = .ok (.if_icmp .ne 20, 3) := by decide +kernel
theorem dX6_isTellable_10 : decode cX6_isTellable 10 = .ok (.iload_n 1, 1) := by decide +kernel
theorem dX6_isTellable_11 : decode cX6_isTellable 11 = .ok (.iconst 2, 1) := by decide +kernel
theorem dX6_isTellable_12 : decode cX6_isTellable 12 = .ok (.if_icmp .lt 13, 3) := by decide +kernel
theorem dX6_isTellable_15 : decode cX6_isTellable 15 = .ok (.iload_n 1, 1) := by decide +kernel
theorem dX6_isTellable_16 : decode cX6_isTellable 16 = .ok (.bipush 59, 2) := by decide +kernel
theorem dX6_isTellable_18 : decode cX6_isTellable 18 = .ok (.if_icmp .gt 7, 3) := by decide +kernel
theorem dX6_isTellable_21 : decode cX6_isTellable 21 = .ok (.iconst 1, 1) := by decide +kernel
theorem dX6_isTellable_22 : decode cX6_isTellable 22 = .ok (.goto 4, 3) := by decide +kernel
theorem dX6_isTellable_25 : decode cX6_isTellable 25 = .ok (.iconst 0, 1) := by decide +kernel
theorem dX6_isTellable_26 : decode cX6_isTellable 26 = .ok (.ireturn, 1) := by decide +kernel
theorem dX6_isTellable_27 : decode cX6_isTellable 27 = .ok (.iload_n 0, 1) := by decide +kernel
theorem dX6_isTellable_28 : decode cX6_isTellable 28 = .ok (.invokestatic 174, 3) := by decide +kernel
theorem dX6_isTellable_31 : decode cX6_isTellable 31 = .ok (.ifCond .eq 13, 3) := by decide +kernel
theorem dX6_isTellable_34 : decode cX6_isTellable 34 = .ok (.iload_n 1, 1) := by decide +kernel
theorem dX6_isTellable_35 : decode cX6_isTellable 35 = .ok (.bipush 60, 2) := by decide +kernel
theorem dX6_isTellable_37 : decode cX6_isTellable 37 = .ok (.if_icmp .gt 7, 3) := by decide +kernel
theorem dX6_isTellable_40 : decode cX6_isTellable 40 = .ok (.iconst 1, 1) := by decide +kernel
theorem dX6_isTellable_41 : decode cX6_isTellable 41 = .ok (.goto 4, 3) := by decide +kernel
theorem dX6_isTellable_44 : decode cX6_isTellable 44 = .ok (.iconst 0, 1) := by decide +kernel
theorem dX6_isTellable_45 : decode cX6_isTellable 45 = .ok (.ireturn, 1) := by decide +kernel
theorem dX6_isMore_0 : decode cX6_isMore 0 = .ok (.iload_n 0, 1) := by decide +kernel
theorem dX6_isMore_1 : decode cX6_isMore 1 = .ok (.iconst 4, 1) := by decide +kernel
theorem dX6_isMore_2 : decode cX6_isMore 2 = .ok (.if_icmp .lt 13, 3) := by decide +kernel
theorem dX6_isMore_5 : decode cX6_isMore 5 = .ok (.iload_n 0, 1) := by decide +kernel
theorem dX6_isMore_6 : decode cX6_isMore 6 = .ok (.bipush 8, 2) := by decide +kernel
theorem dX6_isMore_8 : decode cX6_isMore 8 = .ok (.if_icmp .gt 7, 3) := by decide +kernel
theorem dX6_isMore_11 : decode cX6_isMore 11 = .ok (.iconst 1, 1) := by decide +kernel
theorem dX6_isMore_12 : decode cX6_isMore 12 = .ok (.goto 4, 3) := by decide +kernel
theorem dX6_isMore_15 : decode cX6_isMore 15 = .ok (.iconst 0, 1) := by decide +kernel
theorem dX6_isMore_16 : decode cX6_isMore 16 = .ok (.ireturn, 1) := by decide +kernel
set_option maxRecDepth 20000 in
theorem ggX6_tellNothing_X0_has : GoodIn wsX6_tellNothing wsX0_has := goodIn_r _ [6, 7, 8, 9, 5, 10, 11, 42, 43] (by decide +kernel) (by decide +kernel)
set_option maxRecDepth 20000 in
theorem gX6_tellNothing_X0_has : GoodIn wsX6_tellNothing (wsV RX6 177 RX0 yX0_has wsX0_has) := goodIn_app (goodIn_of _ (by decide +kernel)) ggX6_tellNothing_X0_has
set_option maxRecDepth 20000 in
theorem ggX6_tellNothing_X0_drop : GoodIn wsX6_tellNothing wsX0_drop := goodIn_r _ [15, 11, 16, 3, 4, 5, 6, 7, 8, 9, 10, 42, 43] (by decide +kernel) (by decide +kernel)
set_option maxRecDepth 20000 in
theorem gX6_tellNothing_X0_drop : GoodIn wsX6_tellNothing (wsV RX6 178 RX0 yX0_drop wsX0_drop) := goodIn_app (goodIn_of _ (by decide +kernel)) ggX6_tellNothing_X0_drop
set_option maxRecDepth 20000 in
theorem ggX6_tellNothing_X6_hurryAll : GoodIn wsX6_tellNothing wsX6_hurryAll := goodIn_r _ [21, 22, 23, 24, 25, 26, 27, 28, 29, 30, 31, 32, 33, 34, 35, 36, 37, 38, 39, 40, 41, 44, 45, 46, 47, 48, 49] (by decide +kernel) (by decide +kernel)
set_option maxRecDepth 20000 in
theorem gX6_tellNothing_X6_hurryAll : GoodIn wsX6_tellNothing (wsV RX6 181 RX6 yX6_hurryAll wsX6_hurryAll) := goodIn_app (goodIn_of _ (by decide +kernel)) ggX6_tellNothing_X6_hurryAll
theorem dX6_tellNothing_0 : decode cX6_tellNothing 0 = .ok (.aload_n 0, 1) := by decide +kernel
theorem dX6_tellNothing_1 : decode cX6_tellNothing 1 = .ok (.getfield 16, 3) := by decide +kernel
theorem dX6_tellNothing_4 : decode cX6_tellNothing 4 = .ok (.iload_n 1, 1) := by decide +kernel
theorem dX6_tellNothing_5 : decode cX6_tellNothing 5 = .ok (.invokevirtual 177, 3) := by decide +kernel
theorem dX6_tellNothing_8 : decode cX6_tellNothing 8 = .ok (.ifCond .eq 15, 3) := by decide +kernel
theorem dX6_tellNothing_11 : decode cX6_tellNothing 11 = .ok (.aload_n 0, 1) := by decide +kernel
theorem dX6_tellNothing_12 : decode cX6_tellNothing 12 = .ok (.getfield 16, 3) := by decide +kernel
theorem dX6_tellNothing_15 : decode cX6_tellNothing 15 = .ok (.iload_n 1, 1) := by decide +kernel
theorem dX6_tellNothing_16 : decode cX6_tellNothing 16 = .ok (.invokevirtual 178, 3) := by decide +kernel
theorem dX6_tellNothing_19 : decode cX6_tellNothing 19 = .ok (.aload_n 0, 1) := by decide +kernel
theorem dX6_tellNothing_20 : decode cX6_tellNothing 20 = .ok (.invokevirtual 181, 3) := by decide +kernel
theorem dX6_tellNothing_23 : decode cX6_tellNothing 23 = .ok (.return_, 1) := by decide +kernel
set_option maxRecDepth 20000 in
theorem ggX6_tellTyped_X0_isSame : GoodIn wsX6_tellTyped wsX0_isSame := goodIn_r _ [8, 9, 10, 11, 12, 7, 13, 14, 15, 16, 17, 56, 57] (by decide +kernel) (by decide +kernel)
set_option maxRecDepth 20000 in
theorem gX6_tellTyped_X0_isSame : GoodIn wsX6_tellTyped (wsV RX6 184 RX0 yX0_isSame wsX0_isSame) := goodIn_app (goodIn_of _ (by decide +kernel)) ggX6_tellTyped_X0_isSame
set_option maxRecDepth 20000 in
theorem ggX6_tellTyped_X0_keep : GoodIn wsX6_tellTyped wsX0_keep := goodIn_r _ [21, 9, 22, 23, 24, 25, 14, 26, 27, 7, 28, 29, 30, 31, 15, 16, 17, 56, 57] (by decide +kernel) (by decide +kernel)
set_option maxRecDepth 20000 in
theorem gX6_tellTyped_X0_keep : GoodIn wsX6_tellTyped (wsV RX6 61 RX0 yX0_keep wsX0_keep) := goodIn_app (goodIn_of _ (by decide +kernel)) ggX6_tellTyped_X0_keep
set_option maxRecDepth 20000 in
theorem ggX6_tellTyped_X6_hurryAll : GoodIn wsX6_tellTyped wsX6_hurryAll := goodIn_r _ [35, 36, 37, 38, 39, 40, 41, 42, 43, 44, 45, 46, 47, 48, 49, 50, 51, 52, 53, 54, 55, 58, 59, 60, 61, 62, 63] (by decide +kernel) (by decide +kernel)
set_option maxRecDepth 20000 in
theorem gX6_tellTyped_X6_hurryAll : GoodIn wsX6_tellTyped (wsV RX6 181 RX6 yX6_hurryAll wsX6_hurryAll) := goodIn_app (goodIn_of _ (by decide +kernel)) ggX6_tellTyped_X6_hurryAll
theorem dX6_tellTyped_0 : decode cX6_tellTyped 0 = .ok (.aload_n 0, 1) := by decide +kernel
theorem dX6_tellTyped_1 : decode cX6_tellTyped 1 = .ok (.getfield 16, 3) := by decide +kernel
theorem dX6_tellTyped_4 : decode cX6_tellTyped 4 = .ok (.iload_n 1, 1) := by decide +kernel
theorem dX6_tellTyped_5 : decode cX6_tellTyped 5 = .ok (.aload_n 0, 1) := by decide +kernel
theorem dX6_tellTyped_6 : decode cX6_tellTyped 6 = .ok (.getfield 9, 3) := by decide +kernel
theorem dX6_tellTyped_9 : decode cX6_tellTyped 9 = .ok (.iconst 0, 1) := by decide +kernel
theorem dX6_tellTyped_10 : decode cX6_tellTyped 10 = .ok (.aload_n 0, 1) := by decide +kernel
theorem dX6_tellTyped_11 : decode cX6_tellTyped 11 = .ok (.getfield 65, 3) := by decide +kernel
theorem dX6_tellTyped_14 : decode cX6_tellTyped 14 = .ok (.invokevirtual 184, 3) := by decide +kernel
theorem dX6_tellTyped_17 : decode cX6_tellTyped 17 = .ok (.ifCond .ne 24, 3) := by decide +kernel
theorem dX6_tellTyped_20 : decode cX6_tellTyped 20 = .ok (.aload_n 0, 1) := by decide +kernel
theorem dX6_tellTyped_21 : decode cX6_tellTyped 21 = .ok (.getfield 16, 3) := by decide +kernel
theorem dX6_tellTyped_24 : decode cX6_tellTyped 24 = .ok (.iload_n 1, 1) := by decide +kernel
theorem dX6_tellTyped_25 : decode cX6_tellTyped 25 = .ok (.aload_n 0, 1) := by decide +kernel
theorem dX6_tellTyped_26 : decode cX6_tellTyped 26 = .ok (.getfield 9, 3) := by decide +kernel
theorem dX6_tellTyped_29 : decode cX6_tellTyped 29 = .ok (.iconst 0, 1) := by decide +kernel
theorem dX6_tellTyped_30 : decode cX6_tellTyped 30 = .ok (.aload_n 0, 1) := by decide +kernel
theorem dX6_tellTyped_31 : decode cX6_tellTyped 31 = .ok (.getfield 65, 3) := by decide +kernel
theorem dX6_tellTyped_34 : decode cX6_tellTyped 34 = .ok (.invokevirtual 61, 3) := by decide +kernel
theorem dX6_tellTyped_37 : decode cX6_tellTyped 37 = .ok (.aload_n 0, 1) := by decide +kernel
theorem dX6_tellTyped_38 : decode cX6_tellTyped 38 = .ok (.invokevirtual 181, 3) := by decide +kernel
theorem dX6_tellTyped_41 : decode cX6_tellTyped 41 = .ok (.return_, 1) := by decide +kernel
set_option maxRecDepth 20000 in
theorem ggX6_hurryAll_X4_hurry : GoodIn wsX6_hurryAll wsX4_hurry := goodIn_r _ [6, 7, 8, 21, 22, 23, 24, 25, 26] (by decide +kernel) (by decide +kernel)
set_option maxRecDepth 20000 in
theorem gX6_hurryAll_X4_hurry : GoodIn wsX6_hurryAll (wsV RX6 188 RX4 yX4_hurry wsX4_hurry) := goodIn_app (goodIn_of _ (by decide +kernel)) ggX6_hurryAll_X4_hurry
theorem dX6_hurryAll_0 : decode cX6_hurryAll 0 = .ok (.iconst 0, 1) := by decide +kernel
theorem dX6_hurryAll_1 : decode cX6_hurryAll 1 = .ok (.istore_n 1, 1) := by decide +kernel
theorem dX6_hurryAll_2 : decode cX6_hurryAll 2 = .ok (.iload_n 1, 1) := by decide +kernel
theorem dX6_hurryAll_3 : decode cX6_hurryAll 3 = .ok (.iconst 4, 1) := by decide +kernel
theorem dX6_hurryAll_4 : decode cX6_hurryAll 4 = .ok (.if_icmp .ge 18, 3) := by decide +kernel
theorem dX6_hurryAll_7 : decode cX6_hurryAll 7 = .ok (.aload_n 0, 1) := by decide +kernel
theorem dX6_hurryAll_8 : decode cX6_hurryAll 8 = .ok (.getfield 22, 3) := by decide +kernel
theorem dX6_hurryAll_11 : decode cX6_hurryAll 11 = .ok (.iload_n 1, 1) := by decide +kernel
theorem dX6_hurryAll_12 : decode cX6_hurryAll 12 = .ok (.aaload, 1) := by decide +kernel
theorem dX6_hurryAll_13 : decode cX6_hurryAll 13 = .ok (.invokevirtual 188, 3) := by decide +kernel
theorem dX6_hurryAll_16 : decode cX6_hurryAll 16 = .ok (.iinc 1 1, 3) := by decide +kernel
theorem dX6_hurryAll_19 : decode cX6_hurryAll 19 = .ok (.goto (-17), 3) := by decide +kernel
theorem dX6_hurryAll_22 : decode cX6_hurryAll 22 = .ok (.return_, 1) := by decide +kernel
set_option maxRecDepth 20000 in
theorem ggX6_learn_X1_contents : GoodIn wsX6_learn wsX1_contents := goodIn_r _ [9, 10, 105, 106] (by decide +kernel) (by decide +kernel)
set_option maxRecDepth 20000 in
theorem gX6_learn_X1_contents : GoodIn wsX6_learn (wsV RX6 191 RX1 yX1_contents wsX1_contents) := goodIn_app (goodIn_of _ (by decide +kernel)) ggX6_learn_X1_contents
set_option maxRecDepth 20000 in
theorem ggX6_learn_X3_find : GoodIn wsX6_learn wsX3_find := goodIn_r _ [15, 16, 17, 18, 19, 20, 21, 22, 23, 24, 25, 26, 27, 28, 29, 30, 31, 32, 33, 34, 35, 36, 37, 38, 39, 40, 41, 42, 43, 44, 45, 46, 107, 108, 109, 110, 111, 112, 113, 114] (by decide +kernel) (by decide +kernel)
set_option maxRecDepth 20000 in
theorem gX6_learn_X3_find : GoodIn wsX6_learn (wsV RX6 170 RX3 yX3_find wsX3_find) := goodIn_app (goodIn_of _ (by decide +kernel)) ggX6_learn_X3_find
set_option maxRecDepth 20000 in
theorem ggX6_learn_X1_held : GoodIn wsX6_learn wsX1_held := goodIn_r _ [50, 51, 105, 106] (by decide +kernel) (by decide +kernel)
set_option maxRecDepth 20000 in
theorem gX6_learn_X1_held : GoodIn wsX6_learn (wsV RX6 192 RX1 yX1_held wsX1_held) := goodIn_app (goodIn_of _ (by decide +kernel)) ggX6_learn_X1_held
set_option maxRecDepth 20000 in
theorem ggX6_learn_X3_forget : GoodIn wsX6_learn wsX3_forget := goodIn_r _ [55, 17, 16, 56, 57, 58, 14, 59, 107, 108] (by decide +kernel) (by decide +kernel)
set_option maxRecDepth 20000 in
theorem gX6_learn_X3_forget : GoodIn wsX6_learn (wsV RX6 195 RX3 yX3_forget wsX3_forget) := goodIn_app (goodIn_of _ (by decide +kernel)) ggX6_learn_X3_forget
set_option maxRecDepth 20000 in
theorem ggX6_learn_X3_add : GoodIn wsX6_learn wsX3_add := goodIn_r _ [63, 16, 17, 64, 65, 66, 21, 67, 23, 68, 107, 108, 109, 110, 111, 112] (by decide +kernel) (by decide +kernel)
set_option maxRecDepth 20000 in
theorem gX6_learn_X3_add : GoodIn wsX6_learn (wsV RX6 198 RX3 yX3_add wsX3_add) := goodIn_app (goodIn_of _ (by decide +kernel)) ggX6_learn_X3_add
set_option maxRecDepth 20000 in
theorem ggX6_learn_X4_greet : GoodIn wsX6_learn wsX4_greet := goodIn_r _ [73, 74, 75, 76, 77, 78, 79, 115, 116, 117, 118, 119, 120] (by decide +kernel) (by decide +kernel)
set_option maxRecDepth 20000 in
theorem gX6_learn_X4_greet : GoodIn wsX6_learn (wsV RX6 201 RX4 yX4_greet wsX4_greet) := goodIn_app (goodIn_of _ (by decide +kernel)) ggX6_learn_X4_greet
set_option maxRecDepth 20000 in
theorem ggX6_learn_X3_at : GoodIn wsX6_learn wsX3_at := goodIn_r _ [83, 17, 107, 108] (by decide +kernel) (by decide +kernel)
set_option maxRecDepth 20000 in
theorem gX6_learn_X3_at : GoodIn wsX6_learn (wsV RX6 153 RX3 yX3_at wsX3_at) := goodIn_app (goodIn_of _ (by decide +kernel)) ggX6_learn_X3_at
set_option maxRecDepth 20000 in
theorem ggX6_learn_X2_renew : GoodIn wsX6_learn wsX2_renew := goodIn_r _ [87, 28, 88, 68, 109, 110, 111, 112] (by decide +kernel) (by decide +kernel)
set_option maxRecDepth 20000 in
theorem gX6_learn_X2_renew : GoodIn wsX6_learn (wsV RX6 204 RX2 yX2_renew wsX2_renew) := goodIn_app (goodIn_of _ (by decide +kernel)) ggX6_learn_X2_renew
set_option maxRecDepth 20000 in
theorem ggX6_learn_X1_useNext : GoodIn wsX6_learn wsX1_useNext := goodIn_r _ [92, 10, 105, 106] (by decide +kernel) (by decide +kernel)
set_option maxRecDepth 20000 in
theorem gX6_learn_X1_useNext : GoodIn wsX6_learn (wsV RX6 208 RX1 yX1_useNext wsX1_useNext) := goodIn_app (goodIn_of _ (by decide +kernel)) ggX6_learn_X1_useNext
theorem dX6_learn_0 : decode cX6_learn 0 = .ok (.aload_n 0, 1) := by decide +kernel
theorem dX6_learn_1 : decode cX6_learn 1 = .ok (.getfield 29, 3) := by decide +kernel
theorem dX6_learn_4 : decode cX6_learn 4 = .ok (.iload_n 1, 1) := by decide +kernel
theorem dX6_learn_5 : decode cX6_learn 5 = .ok (.aload_n 0, 1) := by decide +kernel
theorem dX6_learn_6 : decode cX6_learn 6 = .ok (.getfield 36, 3) := by decide +kernel
theorem dX6_learn_9 : decode cX6_learn 9 = .ok (.invokevirtual 191, 3) := by decide +kernel
theorem dX6_learn_12 : decode cX6_learn 12 = .ok (.invokevirtual 170, 3) := by decide +kernel
theorem dX6_learn_15 : decode cX6_learn 15 = .ok (.istore_n 2, 1) := by decide +kernel
theorem dX6_learn_16 : decode cX6_learn 16 = .ok (.aload_n 0, 1) := by decide +kernel
theorem dX6_learn_17 : decode cX6_learn 17 = .ok (.getfield 36, 3) := by decide +kernel
theorem dX6_learn_20 : decode cX6_learn 20 = .ok (.invokevirtual 192, 3) := by decide +kernel
theorem dX6_learn_23 : decode cX6_learn 23 = .ok (.ifCond .ne 13, 3) := by decide +kernel
theorem dX6_learn_26 : decode cX6_learn 26 = .ok (.aload_n 0, 1) := by decide +kernel
theorem dX6_learn_27 : decode cX6_learn 27 = .ok (.getfield 29, 3) := by decide +kernel
theorem dX6_learn_30 : decode cX6_learn 30 = .ok (.iload_n 2, 1) := by decide +kernel
theorem dX6_learn_31 : decode cX6_learn 31 = .ok (.invokevirtual 195, 3) := by decide +kernel
theorem dX6_learn_34 : decode cX6_learn 34 = .ok (.iconst 0, 1) := by decide +kernel
theorem dX6_learn_35 : decode cX6_learn 35 = .ok (.ireturn, 1) := by decide +kernel
theorem dX6_learn_36 : decode cX6_learn 36 = .ok (.iload_n 2, 1) := by decide +kernel
theorem dX6_learn_37 : decode cX6_learn 37 = .ok (.iconst (-1), 1) := by decide +kernel
theorem dX6_learn_38 : decode cX6_learn 38 = .ok (.if_icmp .ne 32, 3) := by decide +kernel
theorem dX6_learn_41 : decode cX6_learn 41 = .ok (.aload_n 0, 1) := by decide +kernel
theorem dX6_learn_42 : decode cX6_learn 42 = .ok (.getfield 29, 3) := by decide +kernel
theorem dX6_learn_45 : decode cX6_learn 45 = .ok (.iload_n 1, 1) := by decide +kernel
theorem dX6_learn_46 : decode cX6_learn 46 = .ok (.invokevirtual 198, 3) := by decide +kernel
theorem dX6_learn_49 : decode cX6_learn 49 = .ok (.istore_n 2, 1) := by decide +kernel
theorem dX6_learn_50 : decode cX6_learn 50 = .ok (.iload_n 2, 1) := by decide +kernel
theorem dX6_learn_51 : decode cX6_learn 51 = .ok (.iconst (-1), 1) := by decide +kernel
theorem dX6_learn_52 : decode cX6_learn 52 = .ok (.if_icmp .ne 5, 3) := by decide +kernel
theorem dX6_learn_55 : decode cX6_learn 55 = .ok (.iconst 5, 1) := by decide +kernel
theorem dX6_learn_56 : decode cX6_learn 56 = .ok (.ireturn, 1) := by decide +kernel
theorem dX6_learn_57 : decode cX6_learn 57 = .ok (.aload_n 0, 1) := by decide +kernel
theorem dX6_learn_58 : decode cX6_learn 58 = .ok (.getfield 22, 3) := by decide +kernel
theorem dX6_learn_61 : decode cX6_learn 61 = .ok (.iload_n 1, 1) := by decide +kernel
theorem dX6_learn_62 : decode cX6_learn 62 = .ok (.aaload, 1) := by decide +kernel
theorem dX6_learn_63 : decode cX6_learn 63 = .ok (.aload_n 0, 1) := by decide +kernel
theorem dX6_learn_64 : decode cX6_learn 64 = .ok (.getfield 54, 3) := by decide +kernel
theorem dX6_learn_67 : decode cX6_learn 67 = .ok (.invokevirtual 201, 3) := by decide +kernel
theorem dX6_learn_70 : decode cX6_learn 70 = .ok (.aload_n 0, 1) := by decide +kernel
theorem dX6_learn_71 : decode cX6_learn 71 = .ok (.getfield 29, 3) := by decide +kernel
theorem dX6_learn_74 : decode cX6_learn 74 = .ok (.iload_n 2, 1) := by decide +kernel
theorem dX6_learn_75 : decode cX6_learn 75 = .ok (.invokevirtual 153, 3) := by decide +kernel
theorem dX6_learn_78 : decode cX6_learn 78 = .ok (.aload_n 0, 1) := by decide +kernel
theorem dX6_learn_79 : decode cX6_learn 79 = .ok (.getfield 36, 3) := by decide +kernel
theorem dX6_learn_82 : decode cX6_learn 82 = .ok (.invokevirtual 191, 3) := by decide +kernel
theorem dX6_learn_85 : decode cX6_learn 85 = .ok (.aload_n 0, 1) := by decide +kernel
theorem dX6_learn_86 : decode cX6_learn 86 = .ok (.getfield 36, 3) := by decide +kernel
theorem dX6_learn_89 : decode cX6_learn 89 = .ok (.invokevirtual 192, 3) := by decide +kernel
theorem dX6_learn_92 : decode cX6_learn 92 = .ok (.invokevirtual 204, 3) := by decide +kernel
theorem dX6_learn_95 : decode cX6_learn 95 = .ok (.astore_n 3, 1) := by decide +kernel
theorem dX6_learn_96 : decode cX6_learn 96 = .ok (.aload_n 0, 1) := by decide +kernel
theorem dX6_learn_97 : decode cX6_learn 97 = .ok (.getfield 36, 3) := by decide +kernel
theorem dX6_learn_100 : decode cX6_learn 100 = .ok (.aload_n 3, 1) := by decide +kernel
theorem dX6_learn_101 : decode cX6_learn 101 = .ok (.invokevirtual 208, 3) := by decide +kernel
theorem dX6_learn_104 : decode cX6_learn 104 = .ok (.iconst 0, 1) := by decide +kernel
theorem dX6_learn_105 : decode cX6_learn 105 = .ok (.ireturn, 1) := by decide +kernel
end
section
theorem dX7_init_0 : decode cX7_init 0 = .ok (.aload_n 0, 1) := by decide +kernel
theorem dX7_init_1 : decode cX7_init 1 = .ok (.invokespecial 1, 3) := by decide +kernel
theorem dX7_init_4 : decode cX7_init 4 = .ok (.aload_n 0, 1) := by decide +kernel
theorem dX7_init_5 : decode cX7_init 5 = .ok (.sipush 700, 3) := by decide +kernel
theorem dX7_init_8 : decode cX7_init 8 = .ok (.newarray .byte, 2) := by decide +kernel
theorem dX7_init_10 : decode cX7_init 10 = .ok (.putfield 7, 3) := by decide +kernel
theorem dX7_init_13 : decode cX7_init 13 = .ok (.aload_n 0, 1) := by decide +kernel
theorem dX7_init_14 : decode cX7_init 14 = .ok (.sipush 540, 3) := by decide +kernel
theorem dX7_init_17 : decode cX7_init 17 = .ok (.newarray .byte, 2) := by decide +kernel
theorem dX7_init_19 : decode cX7_init 19 = .ok (.putfield 13, 3) := by decide +kernel
theorem dX7_init_22 : decode cX7_init 22 = .ok (.aload_n 0, 1) := by decide +kernel
theorem dX7_init_23 : decode cX7_init 23 = .ok (.bipush 9, 2) := by decide +kernel
theorem dX7_init_25 : decode cX7_init 25 = .ok (.newarray .int, 2) := by decide +kernel
theorem dX7_init_27 : decode cX7_init 27 = .ok (.putfield 16, 3) := by decide +kernel
theorem dX7_init_30 : decode cX7_init 30 = .ok (.aload_n 0, 1) := by decide +kernel
theorem dX7_init_31 : decode cX7_init 31 = .ok (.bipush 30, 2) := by decide +kernel
theorem dX7_init_33 : decode cX7_init 33 = .ok (.putfield 20, 3) := by decide +kernel
theorem dX7_init_36 : decode cX7_init 36 = .ok (.aload_n 0, 1) := by decide +kernel
theorem dX7_init_37 : decode cX7_init 37 = .ok (.iconst 4, 1) := by decide +kernel
theorem dX7_init_38 : decode cX7_init 38 = .ok (.putfield 24, 3) := by decide +kernel
theorem dX7_init_41 : decode cX7_init 41 = .ok (.aload_n 0, 1) := by decide +kernel
theorem dX7_init_42 : decode cX7_init 42 = .ok (.iconst 4, 1) := by decide +kernel
theorem dX7_init_43 : decode cX7_init 43 = .ok (.putfield 27, 3) := by decide +kernel
theorem dX7_init_46 : decode cX7_init 46 = .ok (.aload_n 0, 1) := by decide +kernel
theorem dX7_init_47 : decode cX7_init 47 = .ok (.iconst 4, 1) := by decide +kernel
theorem dX7_init_48 : decode cX7_init 48 = .ok (.newarray .boolean, 2) := by decide +kernel
theorem dX7_init_50 : decode cX7_init 50 = .ok (.putfield 30, 3) := by decide +kernel
theorem dX7_init_53 : decode cX7_init 53 = .ok (.aload_n 0, 1) := by decide +kernel
theorem dX7_init_54 : decode cX7_init 54 = .ok (.iconst 4, 1) := by decide +kernel
theorem dX7_init_55 : decode cX7_init 55 = .ok (.newarray .int, 2) := by decide +kernel
theorem dX7_init_57 : decode cX7_init 57 = .ok (.putfield 34, 3) := by decide +kernel
theorem dX7_init_60 : decode cX7_init 60 = .ok (.aload_n 0, 1) := by decide +kernel
theorem dX7_init_61 : decode cX7_init 61 = .ok (.iconst 4, 1) := by decide +kernel
theorem dX7_init_62 : decode cX7_init 62 = .ok (.newarray .int, 2) := by decide +kernel
theorem dX7_init_64 : decode cX7_init 64 = .ok (.putfield 37, 3) := by decide +kernel
theorem dX7_init_67 : decode cX7_init 67 = .ok (.aload_n 0, 1) := by decide +kernel
theorem dX7_init_68 : decode cX7_init 68 = .ok (.iconst 4, 1) := by decide +kernel
theorem dX7_init_69 : decode cX7_init 69 = .ok (.newarray .int, 2) := by decide +kernel
theorem dX7_init_71 : decode cX7_init 71 = .ok (.putfield 40, 3) := by decide +kernel
theorem dX7_init_74 : decode cX7_init 74 = .ok (.aload_n 0, 1) := by decide +kernel
theorem dX7_init_75 : decode cX7_init 75 = .ok (.iconst 4, 1) := by decide +kernel
theorem dX7_init_76 : decode cX7_init 76 = .ok (.newarray .int, 2) := by decide +kernel
theorem dX7_init_78 : decode cX7_init 78 = .ok (.putfield 43, 3) := by decide +kernel
theorem dX7_init_81 : decode cX7_init 81 = .ok (.aload_n 0, 1) := by decide +kernel
theorem dX7_init_82 : decode cX7_init 82 = .ok (.iconst 4, 1) := by decide +kernel
theorem dX7_init_83 : decode cX7_init 83 = .ok (.newarray .int, 2) := by decide +kernel
theorem dX7_init_85 : decode cX7_init 85 = .ok (.putfield 46, 3) := by decide +kernel
theorem dX7_init_88 : decode cX7_init 88 = .ok (.aload_n 0, 1) := by decide +kernel
theorem dX7_init_89 : decode cX7_init 89 = .ok (.bipush 13, 2) := by decide +kernel
theorem dX7_init_91 : decode cX7_init 91 = .ok (.newarray .int, 2) := by decide +kernel
theorem dX7_init_93 : decode cX7_init 93 = .ok (.putfield 49, 3) := by decide +kernel
theorem dX7_init_96 : decode cX7_init 96 = .ok (.aload_n 0, 1) := by decide +kernel
theorem dX7_init_97 : decode cX7_init 97 = .ok (.bipush 13, 2) := by decide +kernel
theorem dX7_init_99 : decode cX7_init 99 = .ok (.newarray .int, 2) := by decide +kernel
theorem dX7_init_101 : decode cX7_init 101 = .ok (.putfield 52, 3) := by decide +kernel
theorem dX7_init_104 : decode cX7_init 104 = .ok (.aload_n 0, 1) := by decide +kernel
theorem dX7_init_105 : decode cX7_init 105 = .ok (.bipush 13, 2) := by decide +kernel
theorem dX7_init_107 : decode cX7_init 107 = .ok (.newarray .int, 2) := by decide +kernel
theorem dX7_init_109 : decode cX7_init 109 = .ok (.putfield 55, 3) := by decide +kernel
theorem dX7_init_112 : decode cX7_init 112 = .ok (.aload_n 0, 1) := by decide +kernel
theorem dX7_init_113 : decode cX7_init 113 = .ok (.sipush 7020, 3) := by decide +kernel
theorem dX7_init_116 : decode cX7_init 116 = .ok (.newarray .byte, 2) := by decide +kernel
theorem dX7_init_118 : decode cX7_init 118 = .ok (.putfield 58, 3) := by decide +kernel
theorem dX7_init_121 : decode cX7_init 121 = .ok (.aload_n 0, 1) := by decide +kernel
theorem dX7_init_122 : decode cX7_init 122 = .ok (.bipush 117, 2) := by decide +kernel
theorem dX7_init_124 : decode cX7_init 124 = .ok (.newarray .int, 2) := by decide +kernel
theorem dX7_init_126 : decode cX7_init 126 = .ok (.putfield 61, 3) := by decide +kernel
theorem dX7_init_129 : decode cX7_init 129 = .ok (.aload_n 0, 1) := by decide +kernel
theorem dX7_init_130 : decode cX7_init 130 = .ok (.sipush 700, 3) := by decide +kernel
theorem dX7_init_133 : decode cX7_init 133 = .ok (.newarray .byte, 2) := by decide +kernel
theorem dX7_init_135 : decode cX7_init 135 = .ok (.putfield 64, 3) := by decide +kernel
theorem dX7_init_138 : decode cX7_init 138 = .ok (.aload_n 0, 1) := by decide +kernel
theorem dX7_init_139 : decode cX7_init 139 = .ok (.iconst (-1), 1) := by decide +kernel
theorem dX7_init_140 : decode cX7_init 140 = .ok (.putfield 67, 3) := by decide +kernel
theorem dX7_init_143 : decode cX7_init 143 = .ok (.iconst 0, 1) := by decide +kernel
theorem dX7_init_144 : decode cX7_init 144 = .ok (.istore_n 1, 1) := by decide +kernel
theorem dX7_init_145 : decode cX7_init 145 = .ok (.iload_n 1, 1) := by decide +kernel
theorem dX7_init_146 : decode cX7_init 146 = .ok (.bipush 9, 2) := by decide +kernel
theorem dX7_init_148 : decode cX7_init 148 = .ok (.if_icmp .ge 30, 3) := by decide +kernel
theorem dX7_init_151 : decode cX7_init 151 = .ok (.aload_n 0, 1) := by decide +kernel
theorem dX7_init_152 : decode cX7_init 152 = .ok (.getfield 16, 3) := by decide +kernel
theorem dX7_init_155 : decode cX7_init 155 = .ok (.iload_n 1, 1) := by decide +kernel
theorem dX7_init_156 : decode cX7_init 156 = .ok (.iload_n 1, 1) := by decide +kernel
theorem dX7_init_157 : decode cX7_init 157 = .ok (.iconst 1, 1) := by decide +kernel
theorem dX7_init_158 : decode cX7_init 158 = .ok (.if_icmp .eq 8, 3) := by decide +kernel
theorem dX7_init_161 : decode cX7_init 161 = .ok (.iload_n 1, 1) := by decide +kernel
theorem dX7_init_162 : decode cX7_init 162 = .ok (.iconst 2, 1) := by decide +kernel
theorem dX7_init_163 : decode cX7_init 163 = .ok (.if_icmp .ne 7, 3) := by decide +kernel
theorem dX7_init_166 : decode cX7_init 166 = .ok (.iconst 2, 1) := by decide +kernel
theorem dX7_init_167 : decode cX7_init 167 = .ok (.goto 4, 3) := by decide +kernel
theorem dX7_init_170 : decode cX7_init 170 = .ok (.iconst (-1), 1) := by decide +kernel
theorem dX7_init_171 : decode cX7_init 171 = .ok (.iastore, 1) := by decide +kernel
theorem dX7_init_172 : decode cX7_init 172 = .ok (.iinc 1 1, 3) := by decide +kernel
theorem dX7_init_175 : decode cX7_init 175 = .ok (.goto (-30), 3) := by decide +kernel
theorem dX7_init_178 : decode cX7_init 178 = .ok (.return_, 1) := by decide +kernel
theorem dX7_isMore_0 : decode cX7_isMore 0 = .ok (.iload_n 0, 1) := by decide +kernel
theorem dX7_isMore_1 : decode cX7_isMore 1 = .ok (.iconst 4, 1) := by decide +kernel
theorem dX7_isMore_2 : decode cX7_isMore 2 = .ok (.if_icmp .lt 13, 3) := by decide +kernel
theorem dX7_isMore_5 : decode cX7_isMore 5 = .ok (.iload_n 0, 1) := by decide +kernel
theorem dX7_isMore_6 : decode cX7_isMore 6 = .ok (.bipush 8, 2) := by decide +kernel
theorem dX7_isMore_8 : decode cX7_isMore 8 = .ok (.if_icmp .gt 7, 3) := by decide +kernel
theorem dX7_isMore_11 : decode cX7_isMore 11 = .ok (.iconst 1, 1) := by decide +kernel
theorem dX7_isMore_12 : decode cX7_isMore 12 = .ok (.goto 4, 3) := by decide +kernel
theorem dX7_isMore_15 : decode cX7_isMore 15 = .ok (.iconst 0, 1) := by decide +kernel
theorem dX7_isMore_16 : decode cX7_isMore 16 = .ok (.ireturn, 1) := by decide +kernel
theorem dX7_type_0 : decode cX7_type 0 = .ok (.iload_n 3, 1) := by decide +kernel
theorem dX7_type_1 : decode cX7_type 1 = .ok (.iconst 1, 1) := by decide +kernel
theorem dX7_type_2 : decode cX7_type 2 = .ok (.if_icmp .lt 21, 3) := by decide +kernel
theorem dX7_type_5 : decode cX7_type 5 = .ok (.iload_n 3, 1) := by decide +kernel
theorem dX7_type_6 : decode cX7_type 6 = .ok (.bipush 8, 2) := by decide +kernel
theorem dX7_type_8 : decode cX7_type 8 = .ok (.if_icmp .gt 15, 3) := by decide +kernel
theorem dX7_type_11 : decode cX7_type 11 = .ok (.aload_n 0, 1) := by decide +kernel
theorem dX7_type_12 : decode cX7_type 12 = .ok (.getfield 70, 3) := by decide +kernel
theorem dX7_type_15 : decode cX7_type 15 = .ok (.iload_n 3, 1) := by decide +kernel
theorem dX7_type_16 : decode cX7_type 16 = .ok (.iadd, 1) := by decide +kernel
theorem dX7_type_17 : decode cX7_type 17 = .ok (.sipush 700, 3) := by decide +kernel
theorem dX7_type_20 : decode cX7_type 20 = .ok (.if_icmp .le 5, 3) := by decide +kernel
theorem dX7_type_23 : decode cX7_type 23 = .ok (.iconst (-1), 1) := by decide +kernel
theorem dX7_type_24 : decode cX7_type 24 = .ok (.ireturn, 1) := by decide +kernel
theorem dX7_type_25 : decode cX7_type 25 = .ok (.iload_n 3, 1) := by decide +kernel
theorem dX7_type_26 : decode cX7_type 26 = .ok (.iconst 1, 1) := by decide +kernel
theorem dX7_type_27 : decode cX7_type 27 = .ok (.isub, 1) := by decide +kernel
theorem dX7_type_28 : decode cX7_type 28 = .ok (.istore 4, 2) := by decide +kernel
theorem dX7_type_30 : decode cX7_type 30 = .ok (.iload 4, 2) := by decide +kernel
theorem dX7_type_32 : decode cX7_type 32 = .ok (.ifCond .lt 37, 3) := by decide +kernel
theorem dX7_type_35 : decode cX7_type 35 = .ok (.aload_n 0, 1) := by decide +kernel
theorem dX7_type_36 : decode cX7_type 36 = .ok (.getfield 7, 3) := by decide +kernel
theorem dX7_type_39 : decode cX7_type 39 = .ok (.aload_n 0, 1) := by decide +kernel
theorem dX7_type_40 : decode cX7_type 40 = .ok (.getfield 70, 3) := by decide +kernel
theorem dX7_type_43 : decode cX7_type 43 = .ok (.lload_n 1, 1) := by decide +kernel
theorem dX7_type_44 : decode cX7_type 44 = .ok (.bipush 8, 2) := by decide +kernel
theorem dX7_type_46 : decode cX7_type 46 = .ok (.iload 4, 2) := by decide +kernel
theorem dX7_type_48 : decode cX7_type 48 = .ok (.imul, 1) := by decide +kernel
theorem dX7_type_49 : decode cX7_type 49 = .ok (.lshr, 1) := by decide +kernel
theorem dX7_type_50 : decode cX7_type 50 = .ok (.l2i, 1) := by decide +kernel
theorem dX7_type_51 : decode cX7_type 51 = .ok (.i2b, 1) := by decide +kernel
theorem dX7_type_52 : decode cX7_type 52 = .ok (.bastore, 1) := by decide +kernel
theorem dX7_type_53 : decode cX7_type 53 = .ok (.aload_n 0, 1) := by decide +kernel
theorem dX7_type_54 : decode cX7_type 54 = .ok (.dup, 1) := by decide +kernel
theorem dX7_type_55 : decode cX7_type 55 = .ok (.getfield 70, 3) := by decide +kernel
theorem dX7_type_58 : decode cX7_type 58 = .ok (.iconst 1, 1) := by decide +kernel
theorem dX7_type_59 : decode cX7_type 59 = .ok (.iadd, 1) := by decide +kernel
theorem dX7_type_60 : decode cX7_type 60 = .ok (.putfield 70, 3) := by decide +kernel
theorem dX7_type_63 : decode cX7_type 63 = .ok (.iinc 4 (-1), 3) := by decide +kernel
theorem dX7_type_66 : decode cX7_type 66 = .ok (.goto (-36), 3) := by decide +kernel
theorem dX7_type_69 : decode cX7_type 69 = .ok (.aload_n 0, 1) := by decide +kernel
theorem dX7_type_70 : decode cX7_type 70 = .ok (.getfield 70, 3) := by decide +kernel
theorem dX7_type_73 : decode cX7_type 73 = .ok (.ireturn, 1) := by decide +kernel
set_option maxRecDepth 20000 in
theorem ggX7_tell_X7_isMore : GoodIn wsX7_tell wsX7_isMore := goodIn_r _ [10] (by decide +kernel) (by decide +kernel)
set_option maxRecDepth 20000 in
theorem gX7_tell_X7_isMore : GoodIn wsX7_tell (va_wsS RX7 73 yX7_isMore wsX7_isMore) := goodIn_app (goodIn_of _ (by decide +kernel)) ggX7_tell_X7_isMore
theorem dX7_tell_0 : decode cX7_tell 0 = .ok (.iload_n 1, 1) := by decide +kernel
theorem dX7_tell_1 : decode cX7_tell 1 = .ok (.iconst 1, 1) := by decide +kernel
theorem dX7_tell_2 : decode cX7_tell 2 = .ok (.if_icmp .eq 8, 3) := by decide +kernel
theorem dX7_tell_5 : decode cX7_tell 5 = .ok (.iload_n 1, 1) := by decide +kernel
theorem dX7_tell_6 : decode cX7_tell 6 = .ok (.iconst 2, 1) := by decide +kernel
theorem dX7_tell_7 : decode cX7_tell 7 = .ok (.if_icmp .ne 7, 3) := by decide +kernel
theorem dX7_tell_10 : decode cX7_tell 10 = .ok (.iconst 1, 1) := by decide +kernel
theorem dX7_tell_11 : decode cX7_tell 11 = .ok (.goto 4, 3) := by decide +kernel
theorem dX7_tell_14 : decode cX7_tell 14 = .ok (.iconst 0, 1) := by decide +kernel
theorem dX7_tell_15 : decode cX7_tell 15 = .ok (.istore_n 2, 1) := by decide +kernel
theorem dX7_tell_16 : decode cX7_tell 16 = .ok (.iload_n 2, 1) := by decide +kernel
theorem dX7_tell_17 : decode cX7_tell 17 = .ok (.ifCond .ne 12, 3) := by decide +kernel
theorem dX7_tell_20 : decode cX7_tell 20 = .ok (.iload_n 1, 1) := by decide +kernel
theorem dX7_tell_21 : decode cX7_tell 21 = .ok (.invokestatic 73, 3) := by decide +kernel
theorem dX7_tell_24 : decode cX7_tell 24 = .ok (.ifCond .ne 5, 3) := by decide +kernel
theorem dX7_tell_27 : decode cX7_tell 27 = .ok (.iconst 0, 1) := by decide +kernel
theorem dX7_tell_28 : decode cX7_tell 28 = .ok (.ireturn, 1) := by decide +kernel
theorem dX7_tell_29 : decode cX7_tell 29 = .ok (.iload_n 2, 1) := by decide +kernel
theorem dX7_tell_30 : decode cX7_tell 30 = .ok (.ifCond .eq 23, 3) := by decide +kernel
theorem dX7_tell_33 : decode cX7_tell 33 = .ok (.aload_n 0, 1) := by decide +kernel
theorem dX7_tell_34 : decode cX7_tell 34 = .ok (.getfield 70, 3) := by decide +kernel
theorem dX7_tell_37 : decode cX7_tell 37 = .ok (.iconst 2, 1) := by decide +kernel
theorem dX7_tell_38 : decode cX7_tell 38 = .ok (.if_icmp .lt 24, 3) := by decide +kernel
theorem dX7_tell_41 : decode cX7_tell 41 = .ok (.aload_n 0, 1) := by decide +kernel
theorem dX7_tell_42 : decode cX7_tell 42 = .ok (.getfield 70, 3) := by decide +kernel
theorem dX7_tell_45 : decode cX7_tell 45 = .ok (.bipush 59, 2) := by decide +kernel
theorem dX7_tell_47 : decode cX7_tell 47 = .ok (.if_icmp .le 17, 3) := by decide +kernel
theorem dX7_tell_50 : decode cX7_tell 50 = .ok (.goto 12, 3) := by decide +kernel
theorem dX7_tell_53 : decode cX7_tell 53 = .ok (.aload_n 0, 1) := by decide +kernel
theorem dX7_tell_54 : decode cX7_tell 54 = .ok (.getfield 70, 3) := by decide +kernel
theorem dX7_tell_57 : decode cX7_tell 57 = .ok (.bipush 60, 2) := by decide +kernel
theorem dX7_tell_59 : decode cX7_tell 59 = .ok (.if_icmp .le 5, 3) := by decide +kernel
theorem dX7_tell_62 : decode cX7_tell 62 = .ok (.iconst 0, 1) := by decide +kernel
theorem dX7_tell_63 : decode cX7_tell 63 = .ok (.ireturn, 1) := by decide +kernel
theorem dX7_tell_64 : decode cX7_tell 64 = .ok (.iconst 0, 1) := by decide +kernel
theorem dX7_tell_65 : decode cX7_tell 65 = .ok (.istore_n 3, 1) := by decide +kernel
theorem dX7_tell_66 : decode cX7_tell 66 = .ok (.iload_n 3, 1) := by decide +kernel
theorem dX7_tell_67 : decode cX7_tell 67 = .ok (.aload_n 0, 1) := by decide +kernel
theorem dX7_tell_68 : decode cX7_tell 68 = .ok (.getfield 70, 3) := by decide +kernel
theorem dX7_tell_71 : decode cX7_tell 71 = .ok (.if_icmp .ge 26, 3) := by decide +kernel
theorem dX7_tell_74 : decode cX7_tell 74 = .ok (.aload_n 0, 1) := by decide +kernel
theorem dX7_tell_75 : decode cX7_tell 75 = .ok (.getfield 13, 3) := by decide +kernel
theorem dX7_tell_78 : decode cX7_tell 78 = .ok (.bipush 60, 2) := by decide +kernel
theorem dX7_tell_80 : decode cX7_tell 80 = .ok (.iload_n 1, 1) := by decide +kernel
theorem dX7_tell_81 : decode cX7_tell 81 = .ok (.imul, 1) := by decide +kernel
theorem dX7_tell_82 : decode cX7_tell 82 = .ok (.iload_n 3, 1) := by decide +kernel
theorem dX7_tell_83 : decode cX7_tell 83 = .ok (.iadd, 1) := by decide +kernel
theorem dX7_tell_84 : decode cX7_tell 84 = .ok (.aload_n 0, 1) := by decide +kernel
theorem dX7_tell_85 : decode cX7_tell 85 = .ok (.getfield 7, 3) := by decide +kernel
theorem dX7_tell_88 : decode cX7_tell 88 = .ok (.iload_n 3, 1) := by decide +kernel
theorem dX7_tell_89 : decode cX7_tell 89 = .ok (.baload, 1) := by decide +kernel
theorem dX7_tell_90 : decode cX7_tell 90 = .ok (.bastore, 1) := by decide +kernel
theorem dX7_tell_91 : decode cX7_tell 91 = .ok (.iinc 3 1, 3) := by decide +kernel
theorem dX7_tell_94 : decode cX7_tell 94 = .ok (.goto (-28), 3) := by decide +kernel
theorem dX7_tell_97 : decode cX7_tell 97 = .ok (.aload_n 0, 1) := by decide +kernel
theorem dX7_tell_98 : decode cX7_tell 98 = .ok (.getfield 16, 3) := by decide +kernel
theorem dX7_tell_101 : decode cX7_tell 101 = .ok (.iload_n 1, 1) := by decide +kernel
theorem dX7_tell_102 : decode cX7_tell 102 = .ok (.aload_n 0, 1) := by decide +kernel
theorem dX7_tell_103 : decode cX7_tell 103 = .ok (.getfield 70, 3) := by decide +kernel
theorem dX7_tell_106 : decode cX7_tell 106 = .ok (.ifCond .ne 7, 3) := by decide +kernel
theorem dX7_tell_109 : decode cX7_tell 109 = .ok (.iconst (-1), 1) := by decide +kernel
theorem dX7_tell_110 : decode cX7_tell 110 = .ok (.goto 7, 3) := by decide +kernel
theorem dX7_tell_113 : decode cX7_tell 113 = .ok (.aload_n 0, 1) := by decide +kernel
theorem dX7_tell_114 : decode cX7_tell 114 = .ok (.getfield 70, 3) := by decide +kernel
theorem dX7_tell_117 : decode cX7_tell 117 = .ok (.iastore, 1) := by decide +kernel
theorem dX7_tell_118 : decode cX7_tell 118 = .ok (.aload_n 0, 1) := by decide +kernel
theorem dX7_tell_119 : decode cX7_tell 119 = .ok (.iconst 0, 1) := by decide +kernel
theorem dX7_tell_120 : decode cX7_tell 120 = .ok (.putfield 70, 3) := by decide +kernel
theorem dX7_tell_123 : decode cX7_tell 123 = .ok (.iconst 0, 1) := by decide +kernel
theorem dX7_tell_124 : decode cX7_tell 124 = .ok (.istore_n 3, 1) := by decide +kernel
theorem dX7_tell_125 : decode cX7_tell 125 = .ok (.iload_n 3, 1) := by decide +kernel
theorem dX7_tell_126 : decode cX7_tell 126 = .ok (.iconst 4, 1) := by decide +kernel
theorem dX7_tell_127 : decode cX7_tell 127 = .ok (.if_icmp .ge 29, 3) := by decide +kernel
theorem dX7_tell_130 : decode cX7_tell 130 = .ok (.aload_n 0, 1) := by decide +kernel
theorem dX7_tell_131 : decode cX7_tell 131 = .ok (.getfield 43, 3) := by decide +kernel
theorem dX7_tell_134 : decode cX7_tell 134 = .ok (.iload_n 3, 1) := by decide +kernel
theorem dX7_tell_135 : decode cX7_tell 135 = .ok (.aload_n 0, 1) := by decide +kernel
theorem dX7_tell_136 : decode cX7_tell 136 = .ok (.getfield 30, 3) := by decide +kernel
theorem dX7_tell_139 : decode cX7_tell 139 = .ok (.iload_n 3, 1) := by decide +kernel
theorem dX7_tell_140 : decode cX7_tell 140 = .ok (.baload, 1) := by decide +kernel
theorem dX7_tell_141 : decode cX7_tell 141 = .ok (.ifCond .eq 7, 3) := by decide +kernel
theorem dX7_tell_144 : decode cX7_tell 144 = .ok (.iconst 1, 1) := by decide +kernel
theorem dX7_tell_145 : decode cX7_tell 145 = .ok (.goto 4, 3) := by decide +kernel
theorem dX7_tell_148 : decode cX7_tell 148 = .ok (.iconst 0, 1) := by decide +kernel
theorem dX7_tell_149 : decode cX7_tell 149 = .ok (.iastore, 1) := by decide +kernel
theorem dX7_tell_150 : decode cX7_tell 150 = .ok (.iinc 3 1, 3) := by decide +kernel
theorem dX7_tell_153 : decode cX7_tell 153 = .ok (.goto (-28), 3) := by decide +kernel
theorem dX7_tell_156 : decode cX7_tell 156 = .ok (.iconst 1, 1) := by decide +kernel
theorem dX7_tell_157 : decode cX7_tell 157 = .ok (.ireturn, 1) := by decide +kernel
theorem dX7_set_0 : decode cX7_set 0 = .ok (.iload_n 1, 1) := by decide +kernel
theorem dX7_set_1 : decode cX7_set 1 = .ok (.iconst 1, 1) := by decide +kernel
theorem dX7_set_2 : decode cX7_set 2 = .ok (.if_icmp .ne 7, 3) := by decide +kernel
theorem dX7_set_5 : decode cX7_set 5 = .ok (.iconst 2, 1) := by decide +kernel
theorem dX7_set_6 : decode cX7_set 6 = .ok (.goto 4, 3) := by decide +kernel
theorem dX7_set_9 : decode cX7_set 9 = .ok (.iconst 1, 1) := by decide +kernel
theorem dX7_set_10 : decode cX7_set 10 = .ok (.istore_n 3, 1) := by decide +kernel
theorem dX7_set_11 : decode cX7_set 11 = .ok (.iload_n 1, 1) := by decide +kernel
theorem dX7_set_12 : decode cX7_set 12 = .ok (.ifCond .ne 9, 3) := by decide +kernel
theorem dX7_set_15 : decode cX7_set 15 = .ok (.sipush 3600, 3) := by decide +kernel
theorem dX7_set_18 : decode cX7_set 18 = .ok (.goto 15, 3) := by decide +kernel
theorem dX7_set_21 : decode cX7_set 21 = .ok (.iload_n 1, 1) := by decide +kernel
theorem dX7_set_22 : decode cX7_set 22 = .ok (.iconst 1, 1) := by decide +kernel
theorem dX7_set_23 : decode cX7_set 23 = .ok (.if_icmp .ne 8, 3) := by decide +kernel
theorem dX7_set_26 : decode cX7_set 26 = .ok (.bipush 10, 2) := by decide +kernel
theorem dX7_set_28 : decode cX7_set 28 = .ok (.goto 5, 3) := by decide +kernel
theorem dX7_set_31 : decode cX7_set 31 = .ok (.bipush 8, 2) := by decide +kernel
theorem dX7_set_33 : decode cX7_set 33 = .ok (.istore 4, 2) := by decide +kernel
theorem dX7_set_35 : decode cX7_set 35 = .ok (.iload_n 1, 1) := by decide +kernel
theorem dX7_set_36 : decode cX7_set 36 = .ok (.ifCond .lt 19, 3) := by decide +kernel
theorem dX7_set_39 : decode cX7_set 39 = .ok (.iload_n 1, 1) := by decide +kernel
theorem dX7_set_40 : decode cX7_set 40 = .ok (.iconst 2, 1) := by decide +kernel
theorem dX7_set_41 : decode cX7_set 41 = .ok (.if_icmp .gt 14, 3) := by decide +kernel
theorem dX7_set_44 : decode cX7_set 44 = .ok (.iload_n 2, 1) := by decide +kernel
theorem dX7_set_45 : decode cX7_set 45 = .ok (.iload_n 3, 1) := by decide +kernel
theorem dX7_set_46 : decode cX7_set 46 = .ok (.if_icmp .lt 9, 3) := by decide +kernel
theorem dX7_set_49 : decode cX7_set 49 = .ok (.iload_n 2, 1) := by decide +kernel
theorem dX7_set_50 : decode cX7_set 50 = .ok (.iload 4, 2) := by decide +kernel
theorem dX7_set_52 : decode cX7_set 52 = .ok (.if_icmp .le 5, 3) := by decide +kernel
theorem dX7_set_55 : decode cX7_set 55 = .ok (.iconst 0, 1) := by decide +kernel
theorem dX7_set_56 : decode cX7_set 56 = .ok (.ireturn, 1) := by decide +kernel
theorem dX7_set_57 : decode cX7_set 57 = .ok (.iload_n 1, 1) := by decide +kernel
theorem dX7_set_58 : decode cX7_set 58 = .ok (.ifCond .ne 11, 3) := by decide +kernel
theorem dX7_set_61 : decode cX7_set 61 = .ok (.aload_n 0, 1) := by decide +kernel
theorem dX7_set_62 : decode cX7_set 62 = .ok (.iload_n 2, 1) := by decide +kernel
theorem dX7_set_63 : decode cX7_set 63 = .ok (.putfield 20, 3) := by decide +kernel
theorem dX7_set_66 : decode cX7_set 66 = .ok (.goto 21, 3) := by decide +kernel
theorem dX7_set_69 : decode cX7_set 69 = .ok (.iload_n 1, 1) := by decide +kernel
theorem dX7_set_70 : decode cX7_set 70 = .ok (.iconst 1, 1) := by decide +kernel
theorem dX7_set_71 : decode cX7_set 71 = .ok (.if_icmp .ne 11, 3) := by decide +kernel
theorem dX7_set_74 : decode cX7_set 74 = .ok (.aload_n 0, 1) := by decide +kernel
theorem dX7_set_75 : decode cX7_set 75 = .ok (.iload_n 2, 1) := by decide +kernel
theorem dX7_set_76 : decode cX7_set 76 = .ok (.putfield 24, 3) := by decide +kernel
theorem dX7_set_79 : decode cX7_set 79 = .ok (.goto 8, 3) := by decide +kernel
theorem dX7_set_82 : decode cX7_set 82 = .ok (.aload_n 0, 1) := by decide +kernel
theorem dX7_set_83 : decode cX7_set 83 = .ok (.iload_n 2, 1) := by decide +kernel
theorem dX7_set_84 : decode cX7_set 84 = .ok (.putfield 27, 3) := by decide +kernel
theorem dX7_set_87 : decode cX7_set 87 = .ok (.iconst 1, 1) := by decide +kernel
theorem dX7_set_88 : decode cX7_set 88 = .ok (.ireturn, 1) := by decide +kernel
theorem dX7_put_0 : decode cX7_put 0 = .ok (.aload_n 0, 1) := by decide +kernel
theorem dX7_put_1 : decode cX7_put 1 = .ok (.getfield 64, 3) := by decide +kernel
theorem dX7_put_4 : decode cX7_put 4 = .ok (.aload_n 0, 1) := by decide +kernel
theorem dX7_put_5 : decode cX7_put 5 = .ok (.getfield 77, 3) := by decide +kernel
theorem dX7_put_8 : decode cX7_put 8 = .ok (.iload_n 1, 1) := by decide +kernel
theorem dX7_put_9 : decode cX7_put 9 = .ok (.i2b, 1) := by decide +kernel
theorem dX7_put_10 : decode cX7_put 10 = .ok (.bastore, 1) := by decide +kernel
theorem dX7_put_11 : decode cX7_put 11 = .ok (.aload_n 0, 1) := by decide +kernel
theorem dX7_put_12 : decode cX7_put 12 = .ok (.dup, 1) := by decide +kernel
theorem dX7_put_13 : decode cX7_put 13 = .ok (.getfield 77, 3) := by decide +kernel
theorem dX7_put_16 : decode cX7_put 16 = .ok (.iconst 1, 1) := by decide +kernel
theorem dX7_put_17 : decode cX7_put 17 = .ok (.iadd, 1) := by decide +kernel
theorem dX7_put_18 : decode cX7_put 18 = .ok (.putfield 77, 3) := by decide +kernel
theorem dX7_put_21 : decode cX7_put 21 = .ok (.return_, 1) := by decide +kernel
set_option maxRecDepth 20000 in
theorem ggX7_head_X7_put : GoodIn wsX7_head wsX7_put := goodIn_r _ [5, 6, 7, 8, 9, 10, 11, 12, 13, 14, 15, 16, 17, 18, 19, 20, 21, 22, 23, 24, 25, 26, 27, 28, 29, 30, 31] (by decide +kernel) (by decide +kernel)
set_option maxRecDepth 20000 in
theorem gX7_head_X7_put : GoodIn wsX7_head (wsV RX7 80 RX7 yX7_put wsX7_put) := goodIn_app (goodIn_of _ (by decide +kernel)) ggX7_head_X7_put
theorem dX7_head_0 : decode cX7_head 0 = .ok (.aload_n 0, 1) := by decide +kernel
theorem dX7_head_1 : decode cX7_head 1 = .ok (.iload_n 1, 1) := by decide +kernel
theorem dX7_head_2 : decode cX7_head 2 = .ok (.iconst 1, 1) := by decide +kernel
theorem dX7_head_3 : decode cX7_head 3 = .ok (.ishl, 1) := by decide +kernel
theorem dX7_head_4 : decode cX7_head 4 = .ok (.iload_n 2, 1) := by decide +kernel
theorem dX7_head_5 : decode cX7_head 5 = .ok (.bipush 8, 2) := by decide +kernel
theorem dX7_head_7 : decode cX7_head 7 = .ok (.ishr, 1) := by decide +kernel
theorem dX7_head_8 : decode cX7_head 8 = .ok (.ior, 1) := by decide +kernel
theorem dX7_head_9 : decode cX7_head 9 = .ok (.invokevirtual 80, 3) := by decide +kernel
theorem dX7_head_12 : decode cX7_head 12 = .ok (.aload_n 0, 1) := by decide +kernel
theorem dX7_head_13 : decode cX7_head 13 = .ok (.iload_n 2, 1) := by decide +kernel
theorem dX7_head_14 : decode cX7_head 14 = .ok (.invokevirtual 80, 3) := by decide +kernel
theorem dX7_head_17 : decode cX7_head 17 = .ok (.return_, 1) := by decide +kernel
set_option maxRecDepth 20000 in
theorem ggX7_send_X7_head : GoodIn wsX7_send wsX7_head := goodIn_r _ [10, 11, 12, 13, 9, 14, 15, 1, 16, 17, 18, 19, 20, 21, 22, 23, 24, 25, 26, 27, 28, 29, 30, 31, 32, 33, 34, 35, 36, 37, 38, 39] (by decide +kernel) (by decide +kernel)
set_option maxRecDepth 20000 in
theorem gX7_send_X7_head : GoodIn wsX7_send (wsV RX7 84 RX7 yX7_head wsX7_head) := goodIn_app (goodIn_of _ (by decide +kernel)) ggX7_send_X7_head
set_option maxRecDepth 20000 in
theorem ggX7_send_X7_put : GoodIn wsX7_send wsX7_put := goodIn_r _ [14, 15, 1, 16, 17, 18, 19, 20, 21, 22, 23, 24, 25, 26, 27, 28, 29, 30, 31, 32, 33, 34, 35, 36, 37, 38, 39] (by decide +kernel) (by decide +kernel)
set_option maxRecDepth 20000 in
theorem gX7_send_X7_put : GoodIn wsX7_send (wsV RX7 80 RX7 yX7_put wsX7_put) := goodIn_app (goodIn_of _ (by decide +kernel)) ggX7_send_X7_put
theorem dX7_send_0 : decode cX7_send 0 = .ok (.aload_n 0, 1) := by decide +kernel
theorem dX7_send_1 : decode cX7_send 1 = .ok (.iconst 0, 1) := by decide +kernel
theorem dX7_send_2 : decode cX7_send 2 = .ok (.putfield 77, 3) := by decide +kernel
theorem dX7_send_5 : decode cX7_send 5 = .ok (.aload_n 0, 1) := by decide +kernel
theorem dX7_send_6 : decode cX7_send 6 = .ok (.iload_n 1, 1) := by decide +kernel
theorem dX7_send_7 : decode cX7_send 7 = .ok (.putfield 67, 3) := by decide +kernel
theorem dX7_send_10 : decode cX7_send 10 = .ok (.iconst 1, 1) := by decide +kernel
theorem dX7_send_11 : decode cX7_send 11 = .ok (.istore_n 3, 1) := by decide +kernel
theorem dX7_send_12 : decode cX7_send 12 = .ok (.iload_n 3, 1) := by decide +kernel
theorem dX7_send_13 : decode cX7_send 13 = .ok (.bipush 9, 2) := by decide +kernel
theorem dX7_send_15 : decode cX7_send 15 = .ok (.if_icmp .ge 119, 3) := by decide +kernel
theorem dX7_send_18 : decode cX7_send 18 = .ok (.iload_n 3, 1) := by decide +kernel
theorem dX7_send_19 : decode cX7_send 19 = .ok (.iconst 3, 1) := by decide +kernel
theorem dX7_send_20 : decode cX7_send 20 = .ok (.if_icmp .ne 22, 3) := by decide +kernel
theorem dX7_send_23 : decode cX7_send 23 = .ok (.aload_n 0, 1) := by decide +kernel
theorem dX7_send_24 : decode cX7_send 24 = .ok (.iconst 3, 1) := by decide +kernel
theorem dX7_send_25 : decode cX7_send 25 = .ok (.iconst 2, 1) := by decide +kernel
theorem dX7_send_26 : decode cX7_send 26 = .ok (.invokevirtual 84, 3) := by decide +kernel
theorem dX7_send_29 : decode cX7_send 29 = .ok (.aload_n 0, 1) := by decide +kernel
theorem dX7_send_30 : decode cX7_send 30 = .ok (.iload_n 2, 1) := by decide +kernel
theorem dX7_send_31 : decode cX7_send 31 = .ok (.bipush 8, 2) := by decide +kernel
theorem dX7_send_33 : decode cX7_send 33 = .ok (.ishr, 1) := by decide +kernel
theorem dX7_send_34 : decode cX7_send 34 = .ok (.invokevirtual 80, 3) := by decide +kernel
theorem dX7_send_37 : decode cX7_send 37 = .ok (.aload_n 0, 1) := by decide +kernel
theorem dX7_send_38 : decode cX7_send 38 = .ok (.iload_n 2, 1) := by decide +kernel
theorem dX7_send_39 : decode cX7_send 39 = .ok (.invokevirtual 80, 3) := by decide +kernel
theorem dX7_send_42 : decode cX7_send 42 = .ok (.iload_n 3, 1) := by decide +kernel
theorem dX7_send_43 : decode cX7_send 43 = .ok (.iconst 3, 1) := by decide +kernel
theorem dX7_send_44 : decode cX7_send 44 = .ok (.if_icmp .eq 84, 3) := by decide +kernel
theorem dX7_send_47 : decode cX7_send 47 = .ok (.aload_n 0, 1) := by decide +kernel
theorem dX7_send_48 : decode cX7_send 48 = .ok (.getfield 16, 3) := by decide +kernel
theorem dX7_send_51 : decode cX7_send 51 = .ok (.iload_n 3, 1) := by decide +kernel
theorem dX7_send_52 : decode cX7_send 52 = .ok (.iaload, 1) := by decide +kernel
theorem dX7_send_53 : decode cX7_send 53 = .ok (.iconst (-1), 1) := by decide +kernel
theorem dX7_send_54 : decode cX7_send 54 = .ok (.if_icmp .ne 6, 3) := by decide +kernel
theorem dX7_send_57 : decode cX7_send 57 = .ok (.goto 71, 3) := by decide +kernel
theorem dX7_send_60 : decode cX7_send 60 = .ok (.aload_n 0, 1) := by decide +kernel
theorem dX7_send_61 : decode cX7_send 61 = .ok (.iload_n 3, 1) := by decide +kernel
theorem dX7_send_62 : decode cX7_send 62 = .ok (.aload_n 0, 1) := by decide +kernel
theorem dX7_send_63 : decode cX7_send 63 = .ok (.getfield 16, 3) := by decide +kernel
theorem dX7_send_66 : decode cX7_send 66 = .ok (.iload_n 3, 1) := by decide +kernel
theorem dX7_send_67 : decode cX7_send 67 = .ok (.iaload, 1) := by decide +kernel
theorem dX7_send_68 : decode cX7_send 68 = .ok (.iload_n 3, 1) := by decide +kernel
theorem dX7_send_69 : decode cX7_send 69 = .ok (.iconst 2, 1) := by decide +kernel
theorem dX7_send_70 : decode cX7_send 70 = .ok (.if_icmp .ne 7, 3) := by decide +kernel
theorem dX7_send_73 : decode cX7_send 73 = .ok (.iconst 1, 1) := by decide +kernel
theorem dX7_send_74 : decode cX7_send 74 = .ok (.goto 4, 3) := by decide +kernel
theorem dX7_send_77 : decode cX7_send 77 = .ok (.iconst 0, 1) := by decide +kernel
theorem dX7_send_78 : decode cX7_send 78 = .ok (.iadd, 1) := by decide +kernel
theorem dX7_send_79 : decode cX7_send 79 = .ok (.invokevirtual 84, 3) := by decide +kernel
theorem dX7_send_82 : decode cX7_send 82 = .ok (.iconst 0, 1) := by decide +kernel
theorem dX7_send_83 : decode cX7_send 83 = .ok (.istore 4, 2) := by decide +kernel
theorem dX7_send_85 : decode cX7_send 85 = .ok (.iload 4, 2) := by decide +kernel
theorem dX7_send_87 : decode cX7_send 87 = .ok (.aload_n 0, 1) := by decide +kernel
theorem dX7_send_88 : decode cX7_send 88 = .ok (.getfield 16, 3) := by decide +kernel
theorem dX7_send_91 : decode cX7_send 91 = .ok (.iload_n 3, 1) := by decide +kernel
theorem dX7_send_92 : decode cX7_send 92 = .ok (.iaload, 1) := by decide +kernel
theorem dX7_send_93 : decode cX7_send 93 = .ok (.if_icmp .ge 25, 3) := by decide +kernel
theorem dX7_send_96 : decode cX7_send 96 = .ok (.aload_n 0, 1) := by decide +kernel
theorem dX7_send_97 : decode cX7_send 97 = .ok (.aload_n 0, 1) := by decide +kernel
theorem dX7_send_98 : decode cX7_send 98 = .ok (.getfield 13, 3) := by decide +kernel
theorem dX7_send_101 : decode cX7_send 101 = .ok (.bipush 60, 2) := by decide +kernel
theorem dX7_send_103 : decode cX7_send 103 = .ok (.iload_n 3, 1) := by decide +kernel
theorem dX7_send_104 : decode cX7_send 104 = .ok (.imul, 1) := by decide +kernel
theorem dX7_send_105 : decode cX7_send 105 = .ok (.iload 4, 2) := by decide +kernel
theorem dX7_send_107 : decode cX7_send 107 = .ok (.iadd, 1) := by decide +kernel
theorem dX7_send_108 : decode cX7_send 108 = .ok (.baload, 1) := by decide +kernel
theorem dX7_send_109 : decode cX7_send 109 = .ok (.invokevirtual 80, 3) := by decide +kernel
theorem dX7_send_112 : decode cX7_send 112 = .ok (.iinc 4 1, 3) := by decide +kernel
theorem dX7_send_115 : decode cX7_send 115 = .ok (.goto (-30), 3) := by decide +kernel
theorem dX7_send_118 : decode cX7_send 118 = .ok (.iload_n 3, 1) := by decide +kernel
theorem dX7_send_119 : decode cX7_send 119 = .ok (.iconst 2, 1) := by decide +kernel
theorem dX7_send_120 : decode cX7_send 120 = .ok (.if_icmp .ne 8, 3) := by decide +kernel
theorem dX7_send_123 : decode cX7_send 123 = .ok (.aload_n 0, 1) := by decide +kernel
theorem dX7_send_124 : decode cX7_send 124 = .ok (.iload_n 1, 1) := by decide +kernel
theorem dX7_send_125 : decode cX7_send 125 = .ok (.invokevirtual 80, 3) := by decide +kernel
theorem dX7_send_128 : decode cX7_send 128 = .ok (.iinc 3 1, 3) := by decide +kernel
theorem dX7_send_131 : decode cX7_send 131 = .ok (.goto (-119), 3) := by decide +kernel
theorem dX7_send_134 : decode cX7_send 134 = .ok (.aload_n 0, 1) := by decide +kernel
theorem dX7_send_135 : decode cX7_send 135 = .ok (.iconst 0, 1) := by decide +kernel
theorem dX7_send_136 : decode cX7_send 136 = .ok (.iconst 0, 1) := by decide +kernel
theorem dX7_send_137 : decode cX7_send 137 = .ok (.invokevirtual 84, 3) := by decide +kernel
theorem dX7_send_140 : decode cX7_send 140 = .ok (.aload_n 0, 1) := by decide +kernel
theorem dX7_send_141 : decode cX7_send 141 = .ok (.getfield 34, 3) := by decide +kernel
theorem dX7_send_144 : decode cX7_send 144 = .ok (.iload_n 1, 1) := by decide +kernel
theorem dX7_send_145 : decode cX7_send 145 = .ok (.dup2, 1) := by decide +kernel
theorem dX7_send_146 : decode cX7_send 146 = .ok (.iaload, 1) := by decide +kernel
theorem dX7_send_147 : decode cX7_send 147 = .ok (.iconst 1, 1) := by decide +kernel
theorem dX7_send_148 : decode cX7_send 148 = .ok (.iadd, 1) := by decide +kernel
theorem dX7_send_149 : decode cX7_send 149 = .ok (.iastore, 1) := by decide +kernel
theorem dX7_send_150 : decode cX7_send 150 = .ok (.return_, 1) := by decide +kernel
set_option maxRecDepth 20000 in
theorem ggX7_port_X7_send : GoodIn wsX7_port wsX7_send := goodIn_r _ [11, 12, 13, 14, 15, 16, 17, 18, 19, 10, 20, 21, 22, 23, 24, 25, 38, 39, 40, 41, 42, 43, 44, 45, 46, 47, 48, 49, 50, 51, 52, 53, 54, 55, 56, 57, 58, 59, 60, 61] (by decide +kernel) (by decide +kernel)
set_option maxRecDepth 20000 in
theorem gX7_port_X7_send : GoodIn wsX7_port (wsV RX7 88 RX7 yX7_send wsX7_send) := goodIn_app (goodIn_of _ (by decide +kernel)) ggX7_port_X7_send
set_option maxRecDepth 20000 in
theorem ggX7_port_X7_forget : GoodIn wsX7_port wsX7_forget := goodIn_r _ [29, 5, 30, 31, 32, 10, 33, 6, 34, 35, 36, 37, 38, 39, 40, 41, 42, 43, 44, 45, 46, 47, 48, 49, 50, 51, 52, 53, 54, 55, 56, 57, 58, 59, 60, 61] (by decide +kernel) (by decide +kernel)
set_option maxRecDepth 20000 in
theorem gX7_port_X7_forget : GoodIn wsX7_port (wsV RX7 94 RX7 yX7_forget wsX7_forget) := goodIn_app (goodIn_of _ (by decide +kernel)) ggX7_port_X7_forget
theorem dX7_port_0 : decode cX7_port 0 = .ok (.iload_n 1, 1) := by decide +kernel
theorem dX7_port_1 : decode cX7_port 1 = .ok (.ifCond .lt 36, 3) := by decide +kernel
theorem dX7_port_4 : decode cX7_port 4 = .ok (.iload_n 1, 1) := by decide +kernel
theorem dX7_port_5 : decode cX7_port 5 = .ok (.iconst 4, 1) := by decide +kernel
theorem dX7_port_6 : decode cX7_port 6 = .ok (.if_icmp .ge 31, 3) := by decide +kernel
theorem dX7_port_9 : decode cX7_port 9 = .ok (.iload_n 2, 1) := by decide +kernel
theorem dX7_port_10 : decode cX7_port 10 = .ok (.ifCond .lt 27, 3) := by decide +kernel
theorem dX7_port_13 : decode cX7_port 13 = .ok (.iload_n 2, 1) := by decide +kernel
theorem dX7_port_14 : decode cX7_port 14 = .ok (.iconst 1, 1) := by decide +kernel
theorem dX7_port_15 : decode cX7_port 15 = .ok (.if_icmp .gt 22, 3) := by decide +kernel
theorem dX7_port_18 : decode cX7_port 18 = .ok (.aload_n 0, 1) := by decide +kernel
theorem dX7_port_19 : decode cX7_port 19 = .ok (.getfield 30, 3) := by decide +kernel
theorem dX7_port_22 : decode cX7_port 22 = .ok (.iload_n 1, 1) := by decide +kernel
theorem dX7_port_23 : decode cX7_port 23 = .ok (.baload, 1) := by decide +kernel
theorem dX7_port_24 : decode cX7_port 24 = .ok (.iload_n 2, 1) := by decide +kernel
theorem dX7_port_25 : decode cX7_port 25 = .ok (.iconst 1, 1) := by decide +kernel
theorem dX7_port_26 : decode cX7_port 26 = .ok (.if_icmp .ne 7, 3) := by decide +kernel
theorem dX7_port_29 : decode cX7_port 29 = .ok (.iconst 1, 1) := by decide +kernel
theorem dX7_port_30 : decode cX7_port 30 = .ok (.goto 4, 3) := by decide +kernel
theorem dX7_port_33 : decode cX7_port 33 = .ok (.iconst 0, 1) := by decide +kernel
theorem dX7_port_34 : decode cX7_port 34 = .ok (.if_icmp .ne 5, 3) := by decide +kernel
theorem dX7_port_37 : decode cX7_port 37 = .ok (.iconst 0, 1) := by decide +kernel
theorem dX7_port_38 : decode cX7_port 38 = .ok (.ireturn, 1) := by decide +kernel
theorem dX7_port_39 : decode cX7_port 39 = .ok (.aload_n 0, 1) := by decide +kernel
theorem dX7_port_40 : decode cX7_port 40 = .ok (.getfield 30, 3) := by decide +kernel
theorem dX7_port_43 : decode cX7_port 43 = .ok (.iload_n 1, 1) := by decide +kernel
theorem dX7_port_44 : decode cX7_port 44 = .ok (.iload_n 2, 1) := by decide +kernel
theorem dX7_port_45 : decode cX7_port 45 = .ok (.iconst 1, 1) := by decide +kernel
theorem dX7_port_46 : decode cX7_port 46 = .ok (.if_icmp .ne 7, 3) := by decide +kernel
theorem dX7_port_49 : decode cX7_port 49 = .ok (.iconst 1, 1) := by decide +kernel
theorem dX7_port_50 : decode cX7_port 50 = .ok (.goto 4, 3) := by decide +kernel
theorem dX7_port_53 : decode cX7_port 53 = .ok (.iconst 0, 1) := by decide +kernel
theorem dX7_port_54 : decode cX7_port 54 = .ok (.bastore, 1) := by decide +kernel
theorem dX7_port_55 : decode cX7_port 55 = .ok (.aload_n 0, 1) := by decide +kernel
theorem dX7_port_56 : decode cX7_port 56 = .ok (.getfield 43, 3) := by decide +kernel
theorem dX7_port_59 : decode cX7_port 59 = .ok (.iload_n 1, 1) := by decide +kernel
theorem dX7_port_60 : decode cX7_port 60 = .ok (.iload_n 2, 1) := by decide +kernel
theorem dX7_port_61 : decode cX7_port 61 = .ok (.iastore, 1) := by decide +kernel
theorem dX7_port_62 : decode cX7_port 62 = .ok (.aload_n 0, 1) := by decide +kernel
theorem dX7_port_63 : decode cX7_port 63 = .ok (.getfield 46, 3) := by decide +kernel
theorem dX7_port_66 : decode cX7_port 66 = .ok (.iload_n 1, 1) := by decide +kernel
theorem dX7_port_67 : decode cX7_port 67 = .ok (.iload_n 2, 1) := by decide +kernel
theorem dX7_port_68 : decode cX7_port 68 = .ok (.iconst 1, 1) := by decide +kernel
theorem dX7_port_69 : decode cX7_port 69 = .ok (.if_icmp .ne 10, 3) := by decide +kernel
theorem dX7_port_72 : decode cX7_port 72 = .ok (.aload_n 0, 1) := by decide +kernel
theorem dX7_port_73 : decode cX7_port 73 = .ok (.getfield 27, 3) := by decide +kernel
theorem dX7_port_76 : decode cX7_port 76 = .ok (.goto 4, 3) := by decide +kernel
theorem dX7_port_79 : decode cX7_port 79 = .ok (.iconst 0, 1) := by decide +kernel
theorem dX7_port_80 : decode cX7_port 80 = .ok (.iastore, 1) := by decide +kernel
theorem dX7_port_81 : decode cX7_port 81 = .ok (.iload_n 2, 1) := by decide +kernel
theorem dX7_port_82 : decode cX7_port 82 = .ok (.ifCond .ne 41, 3) := by decide +kernel
theorem dX7_port_85 : decode cX7_port 85 = .ok (.aload_n 0, 1) := by decide +kernel
theorem dX7_port_86 : decode cX7_port 86 = .ok (.iload_n 1, 1) := by decide +kernel
theorem dX7_port_87 : decode cX7_port 87 = .ok (.iconst 0, 1) := by decide +kernel
theorem dX7_port_88 : decode cX7_port 88 = .ok (.invokevirtual 88, 3) := by decide +kernel
theorem dX7_port_91 : decode cX7_port 91 = .ok (.aload_n 0, 1) := by decide +kernel
theorem dX7_port_92 : decode cX7_port 92 = .ok (.getfield 91, 3) := by decide +kernel
theorem dX7_port_95 : decode cX7_port 95 = .ok (.iconst 1, 1) := by decide +kernel
theorem dX7_port_96 : decode cX7_port 96 = .ok (.isub, 1) := by decide +kernel
theorem dX7_port_97 : decode cX7_port 97 = .ok (.istore_n 3, 1) := by decide +kernel
theorem dX7_port_98 : decode cX7_port 98 = .ok (.iload_n 3, 1) := by decide +kernel
theorem dX7_port_99 : decode cX7_port 99 = .ok (.ifCond .lt 24, 3) := by decide +kernel
theorem dX7_port_102 : decode cX7_port 102 = .ok (.aload_n 0, 1) := by decide +kernel
theorem dX7_port_103 : decode cX7_port 103 = .ok (.getfield 49, 3) := by decide +kernel
theorem dX7_port_106 : decode cX7_port 106 = .ok (.iload_n 3, 1) := by decide +kernel
theorem dX7_port_107 : decode cX7_port 107 = .ok (.iaload, 1) := by decide +kernel
theorem dX7_port_108 : decode cX7_port 108 = .ok (.iload_n 1, 1) := by decide +kernel
theorem dX7_port_109 : decode cX7_port 109 = .ok (.if_icmp .ne 8, 3) := by decide +kernel
theorem dX7_port_112 : decode cX7_port 112 = .ok (.aload_n 0, 1) := by decide +kernel
theorem dX7_port_113 : decode cX7_port 113 = .ok (.iload_n 3, 1) := by decide +kernel
theorem dX7_port_114 : decode cX7_port 114 = .ok (.invokevirtual 94, 3) := by decide +kernel
theorem dX7_port_117 : decode cX7_port 117 = .ok (.iinc 3 (-1), 3) := by decide +kernel
theorem dX7_port_120 : decode cX7_port 120 = .ok (.goto (-22), 3) := by decide +kernel
theorem dX7_port_123 : decode cX7_port 123 = .ok (.iconst 1, 1) := by decide +kernel
theorem dX7_port_124 : decode cX7_port 124 = .ok (.ireturn, 1) := by decide +kernel
theorem dX7_move_0 : decode cX7_move 0 = .ok (.aload_n 0, 1) := by decide +kernel
theorem dX7_move_1 : decode cX7_move 1 = .ok (.getfield 49, 3) := by decide +kernel
theorem dX7_move_4 : decode cX7_move 4 = .ok (.iload_n 2, 1) := by decide +kernel
theorem dX7_move_5 : decode cX7_move 5 = .ok (.aload_n 0, 1) := by decide +kernel
theorem dX7_move_6 : decode cX7_move 6 = .ok (.getfield 49, 3) := by decide +kernel
theorem dX7_move_9 : decode cX7_move 9 = .ok (.iload_n 1, 1) := by decide +kernel
theorem dX7_move_10 : decode cX7_move 10 = .ok (.iaload, 1) := by decide +kernel
theorem dX7_move_11 : decode cX7_move 11 = .ok (.iastore, 1) := by decide +kernel
theorem dX7_move_12 : decode cX7_move 12 = .ok (.aload_n 0, 1) := by decide +kernel
theorem dX7_move_13 : decode cX7_move 13 = .ok (.getfield 52, 3) := by decide +kernel
theorem dX7_move_16 : decode cX7_move 16 = .ok (.iload_n 2, 1) := by decide +kernel
theorem dX7_move_17 : decode cX7_move 17 = .ok (.aload_n 0, 1) := by decide +kernel
theorem dX7_move_18 : decode cX7_move 18 = .ok (.getfield 52, 3) := by decide +kernel
theorem dX7_move_21 : decode cX7_move 21 = .ok (.iload_n 1, 1) := by decide +kernel
theorem dX7_move_22 : decode cX7_move 22 = .ok (.iaload, 1) := by decide +kernel
theorem dX7_move_23 : decode cX7_move 23 = .ok (.iastore, 1) := by decide +kernel
theorem dX7_move_24 : decode cX7_move 24 = .ok (.aload_n 0, 1) := by decide +kernel
theorem dX7_move_25 : decode cX7_move 25 = .ok (.getfield 55, 3) := by decide +kernel
theorem dX7_move_28 : decode cX7_move 28 = .ok (.iload_n 2, 1) := by decide +kernel
theorem dX7_move_29 : decode cX7_move 29 = .ok (.aload_n 0, 1) := by decide +kernel
theorem dX7_move_30 : decode cX7_move 30 = .ok (.getfield 55, 3) := by decide +kernel
theorem dX7_move_33 : decode cX7_move 33 = .ok (.iload_n 1, 1) := by decide +kernel
theorem dX7_move_34 : decode cX7_move 34 = .ok (.iaload, 1) := by decide +kernel
theorem dX7_move_35 : decode cX7_move 35 = .ok (.iastore, 1) := by decide +kernel
theorem dX7_move_36 : decode cX7_move 36 = .ok (.iconst 0, 1) := by decide +kernel
theorem dX7_move_37 : decode cX7_move 37 = .ok (.istore_n 3, 1) := by decide +kernel
theorem dX7_move_38 : decode cX7_move 38 = .ok (.iload_n 3, 1) := by decide +kernel
theorem dX7_move_39 : decode cX7_move 39 = .ok (.bipush 9, 2) := by decide +kernel
theorem dX7_move_41 : decode cX7_move 41 = .ok (.if_icmp .ge 81, 3) := by decide +kernel
theorem dX7_move_44 : decode cX7_move 44 = .ok (.aload_n 0, 1) := by decide +kernel
theorem dX7_move_45 : decode cX7_move 45 = .ok (.getfield 61, 3) := by decide +kernel
theorem dX7_move_48 : decode cX7_move 48 = .ok (.bipush 9, 2) := by decide +kernel
theorem dX7_move_50 : decode cX7_move 50 = .ok (.iload_n 2, 1) := by decide +kernel
theorem dX7_move_51 : decode cX7_move 51 = .ok (.imul, 1) := by decide +kernel
theorem dX7_move_52 : decode cX7_move 52 = .ok (.iload_n 3, 1) := by decide +kernel
theorem dX7_move_53 : decode cX7_move 53 = .ok (.iadd, 1) := by decide +kernel
theorem dX7_move_54 : decode cX7_move 54 = .ok (.aload_n 0, 1) := by decide +kernel
theorem dX7_move_55 : decode cX7_move 55 = .ok (.getfield 61, 3) := by decide +kernel
theorem dX7_move_58 : decode cX7_move 58 = .ok (.bipush 9, 2) := by decide +kernel
theorem dX7_move_60 : decode cX7_move 60 = .ok (.iload_n 1, 1) := by decide +kernel
theorem dX7_move_61 : decode cX7_move 61 = .ok (.imul, 1) := by decide +kernel
theorem dX7_move_62 : decode cX7_move 62 = .ok (.iload_n 3, 1) := by decide +kernel
theorem dX7_move_63 : decode cX7_move 63 = .ok (.iadd, 1) := by decide +kernel
theorem dX7_move_64 : decode cX7_move 64 = .ok (.iaload, 1) := by decide +kernel
theorem dX7_move_65 : decode cX7_move 65 = .ok (.iastore, 1) := by decide +kernel
theorem dX7_move_66 : decode cX7_move 66 = .ok (.iconst 0, 1) := by decide +kernel
theorem dX7_move_67 : decode cX7_move 67 = .ok (.istore 4, 2) := by decide +kernel
theorem dX7_move_69 : decode cX7_move 69 = .ok (.iload 4, 2) := by decide +kernel
theorem dX7_move_71 : decode cX7_move 71 = .ok (.bipush 60, 2) := by decide +kernel
theorem dX7_move_73 : decode cX7_move 73 = .ok (.if_icmp .ge 43, 3) := by decide +kernel
theorem dX7_move_76 : decode cX7_move 76 = .ok (.aload_n 0, 1) := by decide +kernel
theorem dX7_move_77 : decode cX7_move 77 = .ok (.getfield 58, 3) := by decide +kernel
theorem dX7_move_80 : decode cX7_move 80 = .ok (.bipush 9, 2) := by decide +kernel
theorem dX7_move_82 : decode cX7_move 82 = .ok (.iload_n 2, 1) := by decide +kernel
theorem dX7_move_83 : decode cX7_move 83 = .ok (.imul, 1) := by decide +kernel
theorem dX7_move_84 : decode cX7_move 84 = .ok (.iload_n 3, 1) := by decide +kernel
theorem dX7_move_85 : decode cX7_move 85 = .ok (.iadd, 1) := by decide +kernel
theorem dX7_move_86 : decode cX7_move 86 = .ok (.bipush 60, 2) := by decide +kernel
theorem dX7_move_88 : decode cX7_move 88 = .ok (.imul, 1) := by decide +kernel
theorem dX7_move_89 : decode cX7_move 89 = .ok (.iload 4, 2) := by decide +kernel
theorem dX7_move_91 : decode cX7_move 91 = .ok (.iadd, 1) := by decide +kernel
theorem dX7_move_92 : decode cX7_move 92 = .ok (.aload_n 0, 1) := by decide +kernel
theorem dX7_move_93 : decode cX7_move 93 = .ok (.getfield 58, 3) := by decide +kernel
theorem dX7_move_96 : decode cX7_move 96 = .ok (.bipush 9, 2) := by decide +kernel
theorem dX7_move_98 : decode cX7_move 98 = .ok (.iload_n 1, 1) := by decide +kernel
theorem dX7_move_99 : decode cX7_move 99 = .ok (.imul, 1) := by decide +kernel
theorem dX7_move_100 : decode cX7_move 100 = .ok (.iload_n 3, 1) := by decide +kernel
theorem dX7_move_101 : decode cX7_move 101 = .ok (.iadd, 1) := by decide +kernel
theorem dX7_move_102 : decode cX7_move 102 = .ok (.bipush 60, 2) := by decide +kernel
theorem dX7_move_104 : decode cX7_move 104 = .ok (.imul, 1) := by decide +kernel
theorem dX7_move_105 : decode cX7_move 105 = .ok (.iload 4, 2) := by decide +kernel
theorem dX7_move_107 : decode cX7_move 107 = .ok (.iadd, 1) := by decide +kernel
theorem dX7_move_108 : decode cX7_move 108 = .ok (.baload, 1) := by decide +kernel
theorem dX7_move_109 : decode cX7_move 109 = .ok (.bastore, 1) := by decide +kernel
theorem dX7_move_110 : decode cX7_move 110 = .ok (.iinc 4 1, 3) := by decide +kernel
theorem dX7_move_113 : decode cX7_move 113 = .ok (.goto (-44), 3) := by decide +kernel
theorem dX7_move_116 : decode cX7_move 116 = .ok (.iinc 3 1, 3) := by decide +kernel
theorem dX7_move_119 : decode cX7_move 119 = .ok (.goto (-81), 3) := by decide +kernel
theorem dX7_move_122 : decode cX7_move 122 = .ok (.return_, 1) := by decide +kernel
set_option maxRecDepth 20000 in
theorem ggX7_forget_X7_move : GoodIn wsX7_forget wsX7_move := goodIn_r _ [6, 7, 8, 9, 10, 11, 12, 13, 14, 15, 16, 17, 18, 19, 20, 21, 22, 23, 24, 25, 26, 27, 28, 29, 30, 31, 32, 33, 34, 35] (by decide +kernel) (by decide +kernel)
set_option maxRecDepth 20000 in
theorem gX7_forget_X7_move : GoodIn wsX7_forget (wsV RX7 97 RX7 yX7_move wsX7_move) := goodIn_app (goodIn_of _ (by decide +kernel)) ggX7_forget_X7_move
theorem dX7_forget_0 : decode cX7_forget 0 = .ok (.iload_n 1, 1) := by decide +kernel
theorem dX7_forget_1 : decode cX7_forget 1 = .ok (.iconst 1, 1) := by decide +kernel
theorem dX7_forget_2 : decode cX7_forget 2 = .ok (.iadd, 1) := by decide +kernel
theorem dX7_forget_3 : decode cX7_forget 3 = .ok (.istore_n 2, 1) := by decide +kernel
theorem dX7_forget_4 : decode cX7_forget 4 = .ok (.iload_n 2, 1) := by decide +kernel
theorem dX7_forget_5 : decode cX7_forget 5 = .ok (.aload_n 0, 1) := by decide +kernel
theorem dX7_forget_6 : decode cX7_forget 6 = .ok (.getfield 91, 3) := by decide +kernel
theorem dX7_forget_9 : decode cX7_forget 9 = .ok (.if_icmp .ge 17, 3) := by decide +kernel
theorem dX7_forget_12 : decode cX7_forget 12 = .ok (.aload_n 0, 1) := by decide +kernel
theorem dX7_forget_13 : decode cX7_forget 13 = .ok (.iload_n 2, 1) := by decide +kernel
theorem dX7_forget_14 : decode cX7_forget 14 = .ok (.iload_n 2, 1) := by decide +kernel
theorem dX7_forget_15 : decode cX7_forget 15 = .ok (.iconst 1, 1) := by decide +kernel
theorem dX7_forget_16 : decode cX7_forget 16 = .ok (.isub, 1) := by decide +kernel
theorem dX7_forget_17 : decode cX7_forget 17 = .ok (.invokevirtual 97, 3) := by decide +kernel
theorem dX7_forget_20 : decode cX7_forget 20 = .ok (.iinc 2 1, 3) := by decide +kernel
theorem dX7_forget_23 : decode cX7_forget 23 = .ok (.goto (-19), 3) := by decide +kernel
theorem dX7_forget_26 : decode cX7_forget 26 = .ok (.aload_n 0, 1) := by decide +kernel
theorem dX7_forget_27 : decode cX7_forget 27 = .ok (.dup, 1) := by decide +kernel
theorem dX7_forget_28 : decode cX7_forget 28 = .ok (.getfield 91, 3) := by decide +kernel
theorem dX7_forget_31 : decode cX7_forget 31 = .ok (.iconst 1, 1) := by decide +kernel
theorem dX7_forget_32 : decode cX7_forget 32 = .ok (.isub, 1) := by decide +kernel
theorem dX7_forget_33 : decode cX7_forget 33 = .ok (.putfield 91, 3) := by decide +kernel
theorem dX7_forget_36 : decode cX7_forget 36 = .ok (.return_, 1) := by decide +kernel
theorem dX7_isAlike_0 : decode cX7_isAlike 0 = .ok (.aload_n 0, 1) := by decide +kernel
theorem dX7_isAlike_1 : decode cX7_isAlike 1 = .ok (.getfield 49, 3) := by decide +kernel
theorem dX7_isAlike_4 : decode cX7_isAlike 4 = .ok (.iload_n 1, 1) := by decide +kernel
theorem dX7_isAlike_5 : decode cX7_isAlike 5 = .ok (.iaload, 1) := by decide +kernel
theorem dX7_isAlike_6 : decode cX7_isAlike 6 = .ok (.aload_n 0, 1) := by decide +kernel
theorem dX7_isAlike_7 : decode cX7_isAlike 7 = .ok (.getfield 49, 3) := by decide +kernel
theorem dX7_isAlike_10 : decode cX7_isAlike 10 = .ok (.iload_n 2, 1) := by decide +kernel
theorem dX7_isAlike_11 : decode cX7_isAlike 11 = .ok (.iaload, 1) := by decide +kernel
theorem dX7_isAlike_12 : decode cX7_isAlike 12 = .ok (.if_icmp .ne 7, 3) := by decide +kernel
theorem dX7_isAlike_15 : decode cX7_isAlike 15 = .ok (.iconst 1, 1) := by decide +kernel
theorem dX7_isAlike_16 : decode cX7_isAlike 16 = .ok (.goto 4, 3) := by decide +kernel
theorem dX7_isAlike_19 : decode cX7_isAlike 19 = .ok (.iconst 0, 1) := by decide +kernel
theorem dX7_isAlike_20 : decode cX7_isAlike 20 = .ok (.istore_n 3, 1) := by decide +kernel
theorem dX7_isAlike_21 : decode cX7_isAlike 21 = .ok (.iconst 1, 1) := by decide +kernel
theorem dX7_isAlike_22 : decode cX7_isAlike 22 = .ok (.istore 4, 2) := by decide +kernel
theorem dX7_isAlike_24 : decode cX7_isAlike 24 = .ok (.iload 4, 2) := by decide +kernel
theorem dX7_isAlike_26 : decode cX7_isAlike 26 = .ok (.iconst 3, 1) := by decide +kernel
theorem dX7_isAlike_27 : decode cX7_isAlike 27 = .ok (.if_icmp .ge 121, 3) := by decide +kernel
theorem dX7_isAlike_30 : decode cX7_isAlike 30 = .ok (.iload_n 3, 1) := by decide +kernel
theorem dX7_isAlike_31 : decode cX7_isAlike 31 = .ok (.ifCond .eq 34, 3) := by decide +kernel
theorem dX7_isAlike_34 : decode cX7_isAlike 34 = .ok (.aload_n 0, 1) := by decide +kernel
theorem dX7_isAlike_35 : decode cX7_isAlike 35 = .ok (.getfield 61, 3) := by decide +kernel
theorem dX7_isAlike_38 : decode cX7_isAlike 38 = .ok (.bipush 9, 2) := by decide +kernel
theorem dX7_isAlike_40 : decode cX7_isAlike 40 = .ok (.iload_n 1, 1) := by decide +kernel
theorem dX7_isAlike_41 : decode cX7_isAlike 41 = .ok (.imul, 1) := by decide +kernel
theorem dX7_isAlike_42 : decode cX7_isAlike 42 = .ok (.iload 4, 2) := by decide +kernel
theorem dX7_isAlike_44 : decode cX7_isAlike 44 = .ok (.iadd, 1) := by decide +kernel
theorem dX7_isAlike_45 : decode cX7_isAlike 45 = .ok (.iaload, 1) := by decide +kernel
theorem dX7_isAlike_46 : decode cX7_isAlike 46 = .ok (.aload_n 0, 1) := by decide +kernel
theorem dX7_isAlike_47 : decode cX7_isAlike 47 = .ok (.getfield 61, 3) := by decide +kernel
theorem dX7_isAlike_50 : decode cX7_isAlike 50 = .ok (.bipush 9, 2) := by decide +kernel
theorem dX7_isAlike_52 : decode cX7_isAlike 52 = .ok (.iload_n 2, 1) := by decide +kernel
theorem dX7_isAlike_53 : decode cX7_isAlike 53 = .ok (.imul, 1) := by decide +kernel
theorem dX7_isAlike_54 : decode cX7_isAlike 54 = .ok (.iload 4, 2) := by decide +kernel
theorem dX7_isAlike_56 : decode cX7_isAlike 56 = .ok (.iadd, 1) := by decide +kernel
theorem dX7_isAlike_57 : decode cX7_isAlike 57 = .ok (.iaload, 1) := by decide +kernel
theorem dX7_isAlike_58 : decode cX7_isAlike 58 = .ok (.if_icmp .ne 7, 3) := by decide +kernel
theorem dX7_isAlike_61 : decode cX7_isAlike 61 = .ok (.iconst 1, 1) := by decide +kernel
theorem dX7_isAlike_62 : decode cX7_isAlike 62 = .ok (.goto 4, 3) := by decide +kernel
theorem dX7_isAlike_65 : decode cX7_isAlike 65 = .ok (.iconst 0, 1) := by decide +kernel
theorem dX7_isAlike_66 : decode cX7_isAlike 66 = .ok (.istore_n 3, 1) := by decide +kernel
theorem dX7_isAlike_67 : decode cX7_isAlike 67 = .ok (.iconst 0, 1) := by decide +kernel
theorem dX7_isAlike_68 : decode cX7_isAlike 68 = .ok (.istore 5, 2) := by decide +kernel
theorem dX7_isAlike_70 : decode cX7_isAlike 70 = .ok (.iload_n 3, 1) := by decide +kernel
theorem dX7_isAlike_71 : decode cX7_isAlike 71 = .ok (.ifCond .eq 71, 3) := by decide +kernel
theorem dX7_isAlike_74 : decode cX7_isAlike 74 = .ok (.iload 5, 2) := by decide +kernel
theorem dX7_isAlike_76 : decode cX7_isAlike 76 = .ok (.aload_n 0, 1) := by decide +kernel
theorem dX7_isAlike_77 : decode cX7_isAlike 77 = .ok (.getfield 61, 3) := by decide +kernel
theorem dX7_isAlike_80 : decode cX7_isAlike 80 = .ok (.bipush 9, 2) := by decide +kernel
theorem dX7_isAlike_82 : decode cX7_isAlike 82 = .ok (.iload_n 1, 1) := by decide +kernel
theorem dX7_isAlike_83 : decode cX7_isAlike 83 = .ok (.imul, 1) := by decide +kernel
theorem dX7_isAlike_84 : decode cX7_isAlike 84 = .ok (.iload 4, 2) := by decide +kernel
theorem dX7_isAlike_86 : decode cX7_isAlike 86 = .ok (.iadd, 1) := by decide +kernel
theorem dX7_isAlike_87 : decode cX7_isAlike 87 = .ok (.iaload, 1) := by decide +kernel
theorem dX7_isAlike_88 : decode cX7_isAlike 88 = .ok (.if_icmp .ge 54, 3) := by decide +kernel
theorem dX7_isAlike_91 : decode cX7_isAlike 91 = .ok (.aload_n 0, 1) := by decide +kernel
theorem dX7_isAlike_92 : decode cX7_isAlike 92 = .ok (.getfield 58, 3) := by decide +kernel
theorem dX7_isAlike_95 : decode cX7_isAlike 95 = .ok (.bipush 9, 2) := by decide +kernel
theorem dX7_isAlike_97 : decode cX7_isAlike 97 = .ok (.iload_n 1, 1) := by decide +kernel
theorem dX7_isAlike_98 : decode cX7_isAlike 98 = .ok (.imul, 1) := by decide +kernel
theorem dX7_isAlike_99 : decode cX7_isAlike 99 = .ok (.iload 4, 2) := by decide +kernel
theorem dX7_isAlike_101 : decode cX7_isAlike 101 = .ok (.iadd, 1) := by decide +kernel
theorem dX7_isAlike_102 : decode cX7_isAlike 102 = .ok (.bipush 60, 2) := by decide +kernel
theorem dX7_isAlike_104 : decode cX7_isAlike 104 = .ok (.imul, 1) := by decide +kernel
theorem dX7_isAlike_105 : decode cX7_isAlike 105 = .ok (.iload 5, 2) := by decide +kernel
theorem dX7_isAlike_107 : decode cX7_isAlike 107 = .ok (.iadd, 1) := by decide +kernel
theorem dX7_isAlike_108 : decode cX7_isAlike 108 = .ok (.baload, 1) := by decide +kernel
theorem dX7_isAlike_109 : decode cX7_isAlike 109 = .ok (.aload_n 0, 1) := by decide +kernel
theorem dX7_isAlike_110 : decode cX7_isAlike 110 = .ok (.getfield 58, 3) := by decide +kernel
theorem dX7_isAlike_113 : decode cX7_isAlike 113 = .ok (.bipush 9, 2) := by decide +kernel
theorem dX7_isAlike_115 : decode cX7_isAlike 115 = .ok (.iload_n 2, 1) := by decide +kernel
theorem dX7_isAlike_116 : decode cX7_isAlike 116 = .ok (.imul, 1) := by decide +kernel
theorem dX7_isAlike_117 : decode cX7_isAlike 117 = .ok (.iload 4, 2) := by decide +kernel
theorem dX7_isAlike_119 : decode cX7_isAlike 119 = .ok (.iadd, 1) := by decide +kernel
theorem dX7_isAlike_120 : decode cX7_isAlike 120 = .ok (.bipush 60, 2) := by decide +kernel
theorem dX7_isAlike_122 : decode cX7_isAlike 122 = .ok (.imul, 1) := by decide +kernel
theorem dX7_isAlike_123 : decode cX7_isAlike 123 = .ok (.iload 5, 2) := by decide +kernel
theorem dX7_isAlike_125 : decode cX7_isAlike 125 = .ok (.iadd, 1) := by decide +kernel
theorem dX7_isAlike_126 : decode cX7_isAlike 126 = .ok (.baload, 1) := by decide +kernel
theorem dX7_isAlike_127 : decode cX7_isAlike 127 = .ok (.if_icmp .ne 7, 3) := by decide +kernel
theorem dX7_isAlike_130 : decode cX7_isAlike 130 = .ok (.iconst 1, 1) := by decide +kernel
theorem dX7_isAlike_131 : decode cX7_isAlike 131 = .ok (.goto 4, 3) := by decide +kernel
theorem dX7_isAlike_134 : decode cX7_isAlike 134 = .ok (.iconst 0, 1) := by decide +kernel
theorem dX7_isAlike_135 : decode cX7_isAlike 135 = .ok (.istore_n 3, 1) := by decide +kernel
theorem dX7_isAlike_136 : decode cX7_isAlike 136 = .ok (.iinc 5 1, 3) := by decide +kernel
theorem dX7_isAlike_139 : decode cX7_isAlike 139 = .ok (.goto (-69), 3) := by decide +kernel
theorem dX7_isAlike_142 : decode cX7_isAlike 142 = .ok (.iinc 4 1, 3) := by decide +kernel
theorem dX7_isAlike_145 : decode cX7_isAlike 145 = .ok (.goto (-121), 3) := by decide +kernel
theorem dX7_isAlike_148 : decode cX7_isAlike 148 = .ok (.iload_n 3, 1) := by decide +kernel
theorem dX7_isAlike_149 : decode cX7_isAlike 149 = .ok (.ireturn, 1) := by decide +kernel
set_option maxRecDepth 20000 in
theorem ggX7_parse_X7_isMore : GoodIn wsX7_parse wsX7_isMore := goodIn_r _ [9] (by decide +kernel) (by decide +kernel)
set_option maxRecDepth 20000 in
theorem gX7_parse_X7_isMore : GoodIn wsX7_parse (va_wsS RX7 73 yX7_isMore wsX7_isMore) := goodIn_app (goodIn_of _ (by decide +kernel)) ggX7_parse_X7_isMore
theorem dX7_parse_0 : decode cX7_parse 0 = .ok (.iconst 0, 1) := by decide +kernel
theorem dX7_parse_1 : decode cX7_parse 1 = .ok (.istore_n 1, 1) := by decide +kernel
theorem dX7_parse_2 : decode cX7_parse 2 = .ok (.iload_n 1, 1) := by decide +kernel
theorem dX7_parse_3 : decode cX7_parse 3 = .ok (.bipush 9, 2) := by decide +kernel
theorem dX7_parse_5 : decode cX7_parse 5 = .ok (.if_icmp .ge 19, 3) := by decide +kernel
theorem dX7_parse_8 : decode cX7_parse 8 = .ok (.aload_n 0, 1) := by decide +kernel
theorem dX7_parse_9 : decode cX7_parse 9 = .ok (.getfield 61, 3) := by decide +kernel
theorem dX7_parse_12 : decode cX7_parse 12 = .ok (.bipush 108, 2) := by decide +kernel
theorem dX7_parse_14 : decode cX7_parse 14 = .ok (.iload_n 1, 1) := by decide +kernel
theorem dX7_parse_15 : decode cX7_parse 15 = .ok (.iadd, 1) := by decide +kernel
theorem dX7_parse_16 : decode cX7_parse 16 = .ok (.iconst (-1), 1) := by decide +kernel
theorem dX7_parse_17 : decode cX7_parse 17 = .ok (.iastore, 1) := by decide +kernel
theorem dX7_parse_18 : decode cX7_parse 18 = .ok (.iinc 1 1, 3) := by decide +kernel
theorem dX7_parse_21 : decode cX7_parse 21 = .ok (.goto (-19), 3) := by decide +kernel
theorem dX7_parse_24 : decode cX7_parse 24 = .ok (.iconst 0, 1) := by decide +kernel
theorem dX7_parse_25 : decode cX7_parse 25 = .ok (.istore_n 1, 1) := by decide +kernel
theorem dX7_parse_26 : decode cX7_parse 26 = .ok (.iconst 0, 1) := by decide +kernel
theorem dX7_parse_27 : decode cX7_parse 27 = .ok (.istore_n 2, 1) := by decide +kernel
theorem dX7_parse_28 : decode cX7_parse 28 = .ok (.iload_n 1, 1) := by decide +kernel
theorem dX7_parse_29 : decode cX7_parse 29 = .ok (.iconst 2, 1) := by decide +kernel
theorem dX7_parse_30 : decode cX7_parse 30 = .ok (.iadd, 1) := by decide +kernel
theorem dX7_parse_31 : decode cX7_parse 31 = .ok (.aload_n 0, 1) := by decide +kernel
theorem dX7_parse_32 : decode cX7_parse 32 = .ok (.getfield 70, 3) := by decide +kernel
theorem dX7_parse_35 : decode cX7_parse 35 = .ok (.if_icmp .le 5, 3) := by decide +kernel
theorem dX7_parse_38 : decode cX7_parse 38 = .ok (.iconst 1, 1) := by decide +kernel
theorem dX7_parse_39 : decode cX7_parse 39 = .ok (.ireturn, 1) := by decide +kernel
theorem dX7_parse_40 : decode cX7_parse 40 = .ok (.aload_n 0, 1) := by decide +kernel
theorem dX7_parse_41 : decode cX7_parse 41 = .ok (.getfield 7, 3) := by decide +kernel
theorem dX7_parse_44 : decode cX7_parse 44 = .ok (.iload_n 1, 1) := by decide +kernel
theorem dX7_parse_45 : decode cX7_parse 45 = .ok (.baload, 1) := by decide +kernel
theorem dX7_parse_46 : decode cX7_parse 46 = .ok (.iconst 1, 1) := by decide +kernel
theorem dX7_parse_47 : decode cX7_parse 47 = .ok (.ishr, 1) := by decide +kernel
theorem dX7_parse_48 : decode cX7_parse 48 = .ok (.bipush 127, 2) := by decide +kernel
theorem dX7_parse_50 : decode cX7_parse 50 = .ok (.iand, 1) := by decide +kernel
theorem dX7_parse_51 : decode cX7_parse 51 = .ok (.istore_n 3, 1) := by decide +kernel
theorem dX7_parse_52 : decode cX7_parse 52 = .ok (.aload_n 0, 1) := by decide +kernel
theorem dX7_parse_53 : decode cX7_parse 53 = .ok (.getfield 7, 3) := by decide +kernel
theorem dX7_parse_56 : decode cX7_parse 56 = .ok (.iload_n 1, 1) := by decide +kernel
theorem dX7_parse_57 : decode cX7_parse 57 = .ok (.baload, 1) := by decide +kernel
theorem dX7_parse_58 : decode cX7_parse 58 = .ok (.iconst 1, 1) := by decide +kernel
theorem dX7_parse_59 : decode cX7_parse 59 = .ok (.iand, 1) := by decide +kernel
theorem dX7_parse_60 : decode cX7_parse 60 = .ok (.bipush 8, 2) := by decide +kernel
theorem dX7_parse_62 : decode cX7_parse 62 = .ok (.ishl, 1) := by decide +kernel
theorem dX7_parse_63 : decode cX7_parse 63 = .ok (.aload_n 0, 1) := by decide +kernel
theorem dX7_parse_64 : decode cX7_parse 64 = .ok (.getfield 7, 3) := by decide +kernel
theorem dX7_parse_67 : decode cX7_parse 67 = .ok (.iload_n 1, 1) := by decide +kernel
theorem dX7_parse_68 : decode cX7_parse 68 = .ok (.iconst 1, 1) := by decide +kernel
theorem dX7_parse_69 : decode cX7_parse 69 = .ok (.iadd, 1) := by decide +kernel
theorem dX7_parse_70 : decode cX7_parse 70 = .ok (.baload, 1) := by decide +kernel
theorem dX7_parse_71 : decode cX7_parse 71 = .ok (.sipush 255, 3) := by decide +kernel
theorem dX7_parse_74 : decode cX7_parse 74 = .ok (.iand, 1) := by decide +kernel
theorem dX7_parse_75 : decode cX7_parse 75 = .ok (.ior, 1) := by decide +kernel
theorem dX7_parse_76 : decode cX7_parse 76 = .ok (.istore 4, 2) := by decide +kernel
theorem dX7_parse_78 : decode cX7_parse 78 = .ok (.iinc 1 2, 3) := by decide +kernel
theorem dX7_parse_81 : decode cX7_parse 81 = .ok (.iload_n 2, 1) := by decide +kernel
theorem dX7_parse_82 : decode cX7_parse 82 = .ok (.iconst 3, 1) := by decide +kernel
theorem dX7_parse_83 : decode cX7_parse 83 = .ok (.if_icmp .ge 13, 3) := by decide +kernel
theorem dX7_parse_86 : decode cX7_parse 86 = .ok (.iload_n 3, 1) := by decide +kernel
theorem dX7_parse_87 : decode cX7_parse 87 = .ok (.iload_n 2, 1) := by decide +kernel
theorem dX7_parse_88 : decode cX7_parse 88 = .ok (.iconst 1, 1) := by decide +kernel
theorem dX7_parse_89 : decode cX7_parse 89 = .ok (.iadd, 1) := by decide +kernel
theorem dX7_parse_90 : decode cX7_parse 90 = .ok (.if_icmp .eq 18, 3) := by decide +kernel
theorem dX7_parse_93 : decode cX7_parse 93 = .ok (.goto 13, 3) := by decide +kernel
theorem dX7_parse_96 : decode cX7_parse 96 = .ok (.iload_n 3, 1) := by decide +kernel
theorem dX7_parse_97 : decode cX7_parse 97 = .ok (.iconst 1, 1) := by decide +kernel
theorem dX7_parse_98 : decode cX7_parse 98 = .ok (.if_icmp .lt 10, 3) := by decide +kernel
theorem dX7_parse_101 : decode cX7_parse 101 = .ok (.iload_n 3, 1) := by decide +kernel
theorem dX7_parse_102 : decode cX7_parse 102 = .ok (.iconst 3, 1) := by decide +kernel
theorem dX7_parse_103 : decode cX7_parse 103 = .ok (.if_icmp .gt 5, 3) := by decide +kernel
theorem dX7_parse_106 : decode cX7_parse 106 = .ok (.iconst 2, 1) := by decide +kernel
theorem dX7_parse_107 : decode cX7_parse 107 = .ok (.ireturn, 1) := by decide +kernel
theorem dX7_parse_108 : decode cX7_parse 108 = .ok (.iload_n 3, 1) := by decide +kernel
theorem dX7_parse_109 : decode cX7_parse 109 = .ok (.ifCond .ne 16, 3) := by decide +kernel
theorem dX7_parse_112 : decode cX7_parse 112 = .ok (.iload 4, 2) := by decide +kernel
theorem dX7_parse_114 : decode cX7_parse 114 = .ok (.ifCond .ne 7, 3) := by decide +kernel
theorem dX7_parse_117 : decode cX7_parse 117 = .ok (.iconst 1, 1) := by decide +kernel
theorem dX7_parse_118 : decode cX7_parse 118 = .ok (.goto 70, 3) := by decide +kernel
theorem dX7_parse_121 : decode cX7_parse 121 = .ok (.iconst 0, 1) := by decide +kernel
theorem dX7_parse_122 : decode cX7_parse 122 = .ok (.goto 66, 3) := by decide +kernel
theorem dX7_parse_125 : decode cX7_parse 125 = .ok (.iload_n 3, 1) := by decide +kernel
theorem dX7_parse_126 : decode cX7_parse 126 = .ok (.iconst 3, 1) := by decide +kernel
theorem dX7_parse_127 : decode cX7_parse 127 = .ok (.if_icmp .ge 24, 3) := by decide +kernel
theorem dX7_parse_130 : decode cX7_parse 130 = .ok (.iload 4, 2) := by decide +kernel
theorem dX7_parse_132 : decode cX7_parse 132 = .ok (.iconst 2, 1) := by decide +kernel
theorem dX7_parse_133 : decode cX7_parse 133 = .ok (.if_icmp .lt 14, 3) := by decide +kernel
theorem dX7_parse_136 : decode cX7_parse 136 = .ok (.iload 4, 2) := by decide +kernel
theorem dX7_parse_138 : decode cX7_parse 138 = .ok (.bipush 60, 2) := by decide +kernel
theorem dX7_parse_140 : decode cX7_parse 140 = .ok (.if_icmp .gt 7, 3) := by decide +kernel
theorem dX7_parse_143 : decode cX7_parse 143 = .ok (.iconst 1, 1) := by decide +kernel
theorem dX7_parse_144 : decode cX7_parse 144 = .ok (.goto 44, 3) := by decide +kernel
theorem dX7_parse_147 : decode cX7_parse 147 = .ok (.iconst 0, 1) := by decide +kernel
theorem dX7_parse_148 : decode cX7_parse 148 = .ok (.goto 40, 3) := by decide +kernel
theorem dX7_parse_151 : decode cX7_parse 151 = .ok (.iload_n 3, 1) := by decide +kernel
theorem dX7_parse_152 : decode cX7_parse 152 = .ok (.iconst 3, 1) := by decide +kernel
theorem dX7_parse_153 : decode cX7_parse 153 = .ok (.if_icmp .ne 17, 3) := by decide +kernel
theorem dX7_parse_156 : decode cX7_parse 156 = .ok (.iload 4, 2) := by decide +kernel
theorem dX7_parse_158 : decode cX7_parse 158 = .ok (.iconst 2, 1) := by decide +kernel
theorem dX7_parse_159 : decode cX7_parse 159 = .ok (.if_icmp .lt 7, 3) := by decide +kernel
theorem dX7_parse_162 : decode cX7_parse 162 = .ok (.iconst 1, 1) := by decide +kernel
theorem dX7_parse_163 : decode cX7_parse 163 = .ok (.goto 25, 3) := by decide +kernel
theorem dX7_parse_166 : decode cX7_parse 166 = .ok (.iconst 0, 1) := by decide +kernel
theorem dX7_parse_167 : decode cX7_parse 167 = .ok (.goto 21, 3) := by decide +kernel
theorem dX7_parse_170 : decode cX7_parse 170 = .ok (.iload_n 3, 1) := by decide +kernel
theorem dX7_parse_171 : decode cX7_parse 171 = .ok (.bipush 8, 2) := by decide +kernel
theorem dX7_parse_173 : decode cX7_parse 173 = .ok (.if_icmp .gt 10, 3) := by decide +kernel
theorem dX7_parse_176 : decode cX7_parse 176 = .ok (.iload 4, 2) := by decide +kernel
theorem dX7_parse_178 : decode cX7_parse 178 = .ok (.bipush 60, 2) := by decide +kernel
theorem dX7_parse_180 : decode cX7_parse 180 = .ok (.if_icmp .gt 7, 3) := by decide +kernel
theorem dX7_parse_183 : decode cX7_parse 183 = .ok (.iconst 1, 1) := by decide +kernel
theorem dX7_parse_184 : decode cX7_parse 184 = .ok (.goto 4, 3) := by decide +kernel
theorem dX7_parse_187 : decode cX7_parse 187 = .ok (.iconst 0, 1) := by decide +kernel
theorem dX7_parse_188 : decode cX7_parse 188 = .ok (.istore 5, 2) := by decide +kernel
theorem dX7_parse_190 : decode cX7_parse 190 = .ok (.iload 5, 2) := by decide +kernel
theorem dX7_parse_192 : decode cX7_parse 192 = .ok (.ifCond .ne 5, 3) := by decide +kernel
theorem dX7_parse_195 : decode cX7_parse 195 = .ok (.iconst 3, 1) := by decide +kernel
theorem dX7_parse_196 : decode cX7_parse 196 = .ok (.ireturn, 1) := by decide +kernel
theorem dX7_parse_197 : decode cX7_parse 197 = .ok (.iload_n 3, 1) := by decide +kernel
theorem dX7_parse_198 : decode cX7_parse 198 = .ok (.invokestatic 73, 3) := by decide +kernel
theorem dX7_parse_201 : decode cX7_parse 201 = .ok (.ifCond .eq 18, 3) := by decide +kernel
theorem dX7_parse_204 : decode cX7_parse 204 = .ok (.aload_n 0, 1) := by decide +kernel
theorem dX7_parse_205 : decode cX7_parse 205 = .ok (.getfield 61, 3) := by decide +kernel
theorem dX7_parse_208 : decode cX7_parse 208 = .ok (.bipush 108, 2) := by decide +kernel
theorem dX7_parse_210 : decode cX7_parse 210 = .ok (.iload_n 3, 1) := by decide +kernel
theorem dX7_parse_211 : decode cX7_parse 211 = .ok (.iadd, 1) := by decide +kernel
theorem dX7_parse_212 : decode cX7_parse 212 = .ok (.iaload, 1) := by decide +kernel
theorem dX7_parse_213 : decode cX7_parse 213 = .ok (.iconst (-1), 1) := by decide +kernel
theorem dX7_parse_214 : decode cX7_parse 214 = .ok (.if_icmp .eq 5, 3) := by decide +kernel
theorem dX7_parse_217 : decode cX7_parse 217 = .ok (.iconst 4, 1) := by decide +kernel
theorem dX7_parse_218 : decode cX7_parse 218 = .ok (.ireturn, 1) := by decide +kernel
theorem dX7_parse_219 : decode cX7_parse 219 = .ok (.iload_n 1, 1) := by decide +kernel
theorem dX7_parse_220 : decode cX7_parse 220 = .ok (.iload 4, 2) := by decide +kernel
theorem dX7_parse_222 : decode cX7_parse 222 = .ok (.iadd, 1) := by decide +kernel
theorem dX7_parse_223 : decode cX7_parse 223 = .ok (.aload_n 0, 1) := by decide +kernel
theorem dX7_parse_224 : decode cX7_parse 224 = .ok (.getfield 70, 3) := by decide +kernel
theorem dX7_parse_227 : decode cX7_parse 227 = .ok (.if_icmp .le 5, 3) := by decide +kernel
theorem dX7_parse_230 : decode cX7_parse 230 = .ok (.iconst 1, 1) := by decide +kernel
theorem dX7_parse_231 : decode cX7_parse 231 = .ok (.ireturn, 1) := by decide +kernel
theorem dX7_parse_232 : decode cX7_parse 232 = .ok (.iload_n 3, 1) := by decide +kernel
theorem dX7_parse_233 : decode cX7_parse 233 = .ok (.ifCond .ne 5, 3) := by decide +kernel
theorem dX7_parse_236 : decode cX7_parse 236 = .ok (.iconst 0, 1) := by decide +kernel
theorem dX7_parse_237 : decode cX7_parse 237 = .ok (.ireturn, 1) := by decide +kernel
theorem dX7_parse_238 : decode cX7_parse 238 = .ok (.iload_n 3, 1) := by decide +kernel
theorem dX7_parse_239 : decode cX7_parse 239 = .ok (.iconst 3, 1) := by decide +kernel
theorem dX7_parse_240 : decode cX7_parse 240 = .ok (.if_icmp .ne 39, 3) := by decide +kernel
theorem dX7_parse_243 : decode cX7_parse 243 = .ok (.aload_n 0, 1) := by decide +kernel
theorem dX7_parse_244 : decode cX7_parse 244 = .ok (.getfield 52, 3) := by decide +kernel
theorem dX7_parse_247 : decode cX7_parse 247 = .ok (.bipush 12, 2) := by decide +kernel
theorem dX7_parse_249 : decode cX7_parse 249 = .ok (.aload_n 0, 1) := by decide +kernel
theorem dX7_parse_250 : decode cX7_parse 250 = .ok (.getfield 7, 3) := by decide +kernel
theorem dX7_parse_253 : decode cX7_parse 253 = .ok (.iload_n 1, 1) := by decide +kernel
theorem dX7_parse_254 : decode cX7_parse 254 = .ok (.baload, 1) := by decide +kernel
theorem dX7_parse_255 : decode cX7_parse 255 = .ok (.sipush 255, 3) := by decide +kernel
theorem dX7_parse_258 : decode cX7_parse 258 = .ok (.iand, 1) := by decide +kernel
theorem dX7_parse_259 : decode cX7_parse 259 = .ok (.bipush 8, 2) := by decide +kernel
theorem dX7_parse_261 : decode cX7_parse 261 = .ok (.ishl, 1) := by decide +kernel
theorem dX7_parse_262 : decode cX7_parse 262 = .ok (.aload_n 0, 1) := by decide +kernel
theorem dX7_parse_263 : decode cX7_parse 263 = .ok (.getfield 7, 3) := by decide +kernel
theorem dX7_parse_266 : decode cX7_parse 266 = .ok (.iload_n 1, 1) := by decide +kernel
theorem dX7_parse_267 : decode cX7_parse 267 = .ok (.iconst 1, 1) := by decide +kernel
theorem dX7_parse_268 : decode cX7_parse 268 = .ok (.iadd, 1) := by decide +kernel
theorem dX7_parse_269 : decode cX7_parse 269 = .ok (.baload, 1) := by decide +kernel
theorem dX7_parse_270 : decode cX7_parse 270 = .ok (.sipush 255, 3) := by decide +kernel
theorem dX7_parse_273 : decode cX7_parse 273 = .ok (.iand, 1) := by decide +kernel
theorem dX7_parse_274 : decode cX7_parse 274 = .ok (.ior, 1) := by decide +kernel
theorem dX7_parse_275 : decode cX7_parse 275 = .ok (.iastore, 1) := by decide +kernel
theorem dX7_parse_276 : decode cX7_parse 276 = .ok (.goto 60, 3) := by decide +kernel
theorem dX7_parse_279 : decode cX7_parse 279 = .ok (.iload_n 3, 1) := by decide +kernel
theorem dX7_parse_280 : decode cX7_parse 280 = .ok (.bipush 9, 2) := by decide +kernel
theorem dX7_parse_282 : decode cX7_parse 282 = .ok (.if_icmp .ge 54, 3) := by decide +kernel
theorem dX7_parse_285 : decode cX7_parse 285 = .ok (.aload_n 0, 1) := by decide +kernel
theorem dX7_parse_286 : decode cX7_parse 286 = .ok (.getfield 61, 3) := by decide +kernel
theorem dX7_parse_289 : decode cX7_parse 289 = .ok (.bipush 108, 2) := by decide +kernel
theorem dX7_parse_291 : decode cX7_parse 291 = .ok (.iload_n 3, 1) := by decide +kernel
theorem dX7_parse_292 : decode cX7_parse 292 = .ok (.iadd, 1) := by decide +kernel
theorem dX7_parse_293 : decode cX7_parse 293 = .ok (.iload 4, 2) := by decide +kernel
theorem dX7_parse_295 : decode cX7_parse 295 = .ok (.iastore, 1) := by decide +kernel
theorem dX7_parse_296 : decode cX7_parse 296 = .ok (.iconst 0, 1) := by decide +kernel
theorem dX7_parse_297 : decode cX7_parse 297 = .ok (.istore 6, 2) := by decide +kernel
theorem dX7_parse_299 : decode cX7_parse 299 = .ok (.iload 6, 2) := by decide +kernel
theorem dX7_parse_301 : decode cX7_parse 301 = .ok (.iload 4, 2) := by decide +kernel
theorem dX7_parse_303 : decode cX7_parse 303 = .ok (.if_icmp .ge 33, 3) := by decide +kernel
theorem dX7_parse_306 : decode cX7_parse 306 = .ok (.aload_n 0, 1) := by decide +kernel
theorem dX7_parse_307 : decode cX7_parse 307 = .ok (.getfield 58, 3) := by decide +kernel
theorem dX7_parse_310 : decode cX7_parse 310 = .ok (.bipush 108, 2) := by decide +kernel
theorem dX7_parse_312 : decode cX7_parse 312 = .ok (.iload_n 3, 1) := by decide +kernel
theorem dX7_parse_313 : decode cX7_parse 313 = .ok (.iadd, 1) := by decide +kernel
theorem dX7_parse_314 : decode cX7_parse 314 = .ok (.bipush 60, 2) := by decide +kernel
theorem dX7_parse_316 : decode cX7_parse 316 = .ok (.imul, 1) := by decide +kernel
theorem dX7_parse_317 : decode cX7_parse 317 = .ok (.iload 6, 2) := by decide +kernel
theorem dX7_parse_319 : decode cX7_parse 319 = .ok (.iadd, 1) := by decide +kernel
theorem dX7_parse_320 : decode cX7_parse 320 = .ok (.aload_n 0, 1) := by decide +kernel
theorem dX7_parse_321 : decode cX7_parse 321 = .ok (.getfield 7, 3) := by decide +kernel
theorem dX7_parse_324 : decode cX7_parse 324 = .ok (.iload_n 1, 1) := by decide +kernel
theorem dX7_parse_325 : decode cX7_parse 325 = .ok (.iload 6, 2) := by decide +kernel
theorem dX7_parse_327 : decode cX7_parse 327 = .ok (.iadd, 1) := by decide +kernel
theorem dX7_parse_328 : decode cX7_parse 328 = .ok (.baload, 1) := by decide +kernel
theorem dX7_parse_329 : decode cX7_parse 329 = .ok (.bastore, 1) := by decide +kernel
theorem dX7_parse_330 : decode cX7_parse 330 = .ok (.iinc 6 1, 3) := by decide +kernel
theorem dX7_parse_333 : decode cX7_parse 333 = .ok (.goto (-34), 3) := by decide +kernel
theorem dX7_parse_336 : decode cX7_parse 336 = .ok (.iload_n 1, 1) := by decide +kernel
theorem dX7_parse_337 : decode cX7_parse 337 = .ok (.iload 4, 2) := by decide +kernel
theorem dX7_parse_339 : decode cX7_parse 339 = .ok (.iadd, 1) := by decide +kernel
theorem dX7_parse_340 : decode cX7_parse 340 = .ok (.istore_n 1, 1) := by decide +kernel
theorem dX7_parse_341 : decode cX7_parse 341 = .ok (.iinc 2 1, 3) := by decide +kernel
theorem dX7_parse_344 : decode cX7_parse 344 = .ok (.goto (-316), 3) := by decide +kernel
set_option maxRecDepth 20000 in
theorem ggX7_heard_X7_parse : GoodIn wsX7_heard wsX7_parse := goodIn_r _ [12, 13, 14, 15, 3, 16, 17, 18, 11, 19, 32, 33, 34, 35, 36, 37, 38, 39, 40, 41, 42, 43, 44, 45, 46, 47, 48, 49, 50, 51, 52, 53, 54, 55] (by decide +kernel) (by decide +kernel)
set_option maxRecDepth 20000 in
theorem gX7_heard_X7_parse : GoodIn wsX7_heard (wsV RX7 100 RX7 yX7_parse wsX7_parse) := goodIn_app (goodIn_of _ (by decide +kernel)) ggX7_heard_X7_parse
set_option maxRecDepth 20000 in
theorem ggX7_heard_X7_isAlike : GoodIn wsX7_heard wsX7_isAlike := goodIn_r _ [23, 1, 13, 16, 32, 33, 34, 35, 36, 37, 38, 39, 40, 41, 42, 43, 44, 45, 46, 47, 48, 49, 50, 51, 52, 53, 54, 55] (by decide +kernel) (by decide +kernel)
set_option maxRecDepth 20000 in
theorem gX7_heard_X7_isAlike : GoodIn wsX7_heard (wsV RX7 104 RX7 yX7_isAlike wsX7_isAlike) := goodIn_app (goodIn_of _ (by decide +kernel)) ggX7_heard_X7_isAlike
set_option maxRecDepth 20000 in
theorem ggX7_heard_X7_forget : GoodIn wsX7_heard wsX7_forget := goodIn_r _ [27, 2, 28, 29, 30, 11, 31, 1, 3, 4, 13, 16, 32, 33, 34, 35, 36, 37, 38, 39, 40, 41, 42, 43, 44, 45, 46, 47, 48, 49, 50, 51, 52, 53, 54, 55] (by decide +kernel) (by decide +kernel)
set_option maxRecDepth 20000 in
theorem gX7_heard_X7_forget : GoodIn wsX7_heard (wsV RX7 94 RX7 yX7_forget wsX7_forget) := goodIn_app (goodIn_of _ (by decide +kernel)) ggX7_heard_X7_forget
set_option maxRecDepth 20000 in
theorem ggX7_heard_X7_move : GoodIn wsX7_heard wsX7_move := goodIn_r _ [31, 1, 3, 4, 13, 16, 32, 33, 34, 35, 36, 37, 38, 39, 40, 41, 42, 43, 44, 45, 46, 47, 48, 49, 50, 51, 52, 53, 54, 55] (by decide +kernel) (by decide +kernel)
set_option maxRecDepth 20000 in
theorem gX7_heard_X7_move : GoodIn wsX7_heard (wsV RX7 97 RX7 yX7_move wsX7_move) := goodIn_app (goodIn_of _ (by decide +kernel)) ggX7_heard_X7_move
theorem dX7_heard_0 : decode cX7_heard 0 = .ok (.aload_n 0, 1) := by decide +kernel
theorem dX7_heard_1 : decode cX7_heard 1 = .ok (.invokevirtual 100, 3) := by decide +kernel
theorem dX7_heard_4 : decode cX7_heard 4 = .ok (.istore_n 2, 1) := by decide +kernel
theorem dX7_heard_5 : decode cX7_heard 5 = .ok (.iload_n 2, 1) := by decide +kernel
theorem dX7_heard_6 : decode cX7_heard 6 = .ok (.ifCond .le 5, 3) := by decide +kernel
theorem dX7_heard_9 : decode cX7_heard 9 = .ok (.iload_n 2, 1) := by decide +kernel
theorem dX7_heard_10 : decode cX7_heard 10 = .ok (.ireturn, 1) := by decide +kernel
theorem dX7_heard_11 : decode cX7_heard 11 = .ok (.aload_n 0, 1) := by decide +kernel
theorem dX7_heard_12 : decode cX7_heard 12 = .ok (.getfield 49, 3) := by decide +kernel
theorem dX7_heard_15 : decode cX7_heard 15 = .ok (.bipush 12, 2) := by decide +kernel
theorem dX7_heard_17 : decode cX7_heard 17 = .ok (.iload_n 1, 1) := by decide +kernel
theorem dX7_heard_18 : decode cX7_heard 18 = .ok (.iastore, 1) := by decide +kernel
theorem dX7_heard_19 : decode cX7_heard 19 = .ok (.iconst (-1), 1) := by decide +kernel
theorem dX7_heard_20 : decode cX7_heard 20 = .ok (.istore_n 3, 1) := by decide +kernel
theorem dX7_heard_21 : decode cX7_heard 21 = .ok (.iconst 0, 1) := by decide +kernel
theorem dX7_heard_22 : decode cX7_heard 22 = .ok (.istore 4, 2) := by decide +kernel
theorem dX7_heard_24 : decode cX7_heard 24 = .ok (.iload 4, 2) := by decide +kernel
theorem dX7_heard_26 : decode cX7_heard 26 = .ok (.aload_n 0, 1) := by decide +kernel
theorem dX7_heard_27 : decode cX7_heard 27 = .ok (.getfield 91, 3) := by decide +kernel
theorem dX7_heard_30 : decode cX7_heard 30 = .ok (.if_icmp .ge 23, 3) := by decide +kernel
theorem dX7_heard_33 : decode cX7_heard 33 = .ok (.aload_n 0, 1) := by decide +kernel
theorem dX7_heard_34 : decode cX7_heard 34 = .ok (.iload 4, 2) := by decide +kernel
theorem dX7_heard_36 : decode cX7_heard 36 = .ok (.bipush 12, 2) := by decide +kernel
theorem dX7_heard_38 : decode cX7_heard 38 = .ok (.invokevirtual 104, 3) := by decide +kernel
theorem dX7_heard_41 : decode cX7_heard 41 = .ok (.ifCond .eq 6, 3) := by decide +kernel
theorem dX7_heard_44 : decode cX7_heard 44 = .ok (.iload 4, 2) := by decide +kernel
theorem dX7_heard_46 : decode cX7_heard 46 = .ok (.istore_n 3, 1) := by decide +kernel
theorem dX7_heard_47 : decode cX7_heard 47 = .ok (.iinc 4 1, 3) := by decide +kernel
theorem dX7_heard_50 : decode cX7_heard 50 = .ok (.goto (-26), 3) := by decide +kernel
theorem dX7_heard_53 : decode cX7_heard 53 = .ok (.aload_n 0, 1) := by decide +kernel
theorem dX7_heard_54 : decode cX7_heard 54 = .ok (.getfield 52, 3) := by decide +kernel
theorem dX7_heard_57 : decode cX7_heard 57 = .ok (.bipush 12, 2) := by decide +kernel
theorem dX7_heard_59 : decode cX7_heard 59 = .ok (.iaload, 1) := by decide +kernel
theorem dX7_heard_60 : decode cX7_heard 60 = .ok (.ifCond .ne 15, 3) := by decide +kernel
theorem dX7_heard_63 : decode cX7_heard 63 = .ok (.iload_n 3, 1) := by decide +kernel
theorem dX7_heard_64 : decode cX7_heard 64 = .ok (.iconst (-1), 1) := by decide +kernel
theorem dX7_heard_65 : decode cX7_heard 65 = .ok (.if_icmp .eq 8, 3) := by decide +kernel
theorem dX7_heard_68 : decode cX7_heard 68 = .ok (.aload_n 0, 1) := by decide +kernel
theorem dX7_heard_69 : decode cX7_heard 69 = .ok (.iload_n 3, 1) := by decide +kernel
theorem dX7_heard_70 : decode cX7_heard 70 = .ok (.invokevirtual 94, 3) := by decide +kernel
theorem dX7_heard_73 : decode cX7_heard 73 = .ok (.iconst 0, 1) := by decide +kernel
theorem dX7_heard_74 : decode cX7_heard 74 = .ok (.ireturn, 1) := by decide +kernel
theorem dX7_heard_75 : decode cX7_heard 75 = .ok (.iload_n 3, 1) := by decide +kernel
theorem dX7_heard_76 : decode cX7_heard 76 = .ok (.iconst (-1), 1) := by decide +kernel
theorem dX7_heard_77 : decode cX7_heard 77 = .ok (.if_icmp .ne 84, 3) := by decide +kernel
theorem dX7_heard_80 : decode cX7_heard 80 = .ok (.aload_n 0, 1) := by decide +kernel
theorem dX7_heard_81 : decode cX7_heard 81 = .ok (.getfield 91, 3) := by decide +kernel
theorem dX7_heard_84 : decode cX7_heard 84 = .ok (.bipush 12, 2) := by decide +kernel
theorem dX7_heard_86 : decode cX7_heard 86 = .ok (.if_icmp .ne 5, 3) := by decide +kernel
theorem dX7_heard_89 : decode cX7_heard 89 = .ok (.iconst 5, 1) := by decide +kernel
theorem dX7_heard_90 : decode cX7_heard 90 = .ok (.ireturn, 1) := by decide +kernel
theorem dX7_heard_91 : decode cX7_heard 91 = .ok (.aload_n 0, 1) := by decide +kernel
theorem dX7_heard_92 : decode cX7_heard 92 = .ok (.getfield 55, 3) := by decide +kernel
theorem dX7_heard_95 : decode cX7_heard 95 = .ok (.bipush 12, 2) := by decide +kernel
theorem dX7_heard_97 : decode cX7_heard 97 = .ok (.iconst 1, 1) := by decide +kernel
theorem dX7_heard_98 : decode cX7_heard 98 = .ok (.iastore, 1) := by decide +kernel
theorem dX7_heard_99 : decode cX7_heard 99 = .ok (.aload_n 0, 1) := by decide +kernel
theorem dX7_heard_100 : decode cX7_heard 100 = .ok (.bipush 12, 2) := by decide +kernel
theorem dX7_heard_102 : decode cX7_heard 102 = .ok (.aload_n 0, 1) := by decide +kernel
theorem dX7_heard_103 : decode cX7_heard 103 = .ok (.getfield 91, 3) := by decide +kernel
theorem dX7_heard_106 : decode cX7_heard 106 = .ok (.invokevirtual 97, 3) := by decide +kernel
theorem dX7_heard_109 : decode cX7_heard 109 = .ok (.aload_n 0, 1) := by decide +kernel
theorem dX7_heard_110 : decode cX7_heard 110 = .ok (.dup, 1) := by decide +kernel
theorem dX7_heard_111 : decode cX7_heard 111 = .ok (.getfield 91, 3) := by decide +kernel
theorem dX7_heard_114 : decode cX7_heard 114 = .ok (.iconst 1, 1) := by decide +kernel
theorem dX7_heard_115 : decode cX7_heard 115 = .ok (.iadd, 1) := by decide +kernel
theorem dX7_heard_116 : decode cX7_heard 116 = .ok (.putfield 91, 3) := by decide +kernel
theorem dX7_heard_119 : decode cX7_heard 119 = .ok (.aload_n 0, 1) := by decide +kernel
theorem dX7_heard_120 : decode cX7_heard 120 = .ok (.getfield 46, 3) := by decide +kernel
theorem dX7_heard_123 : decode cX7_heard 123 = .ok (.iload_n 1, 1) := by decide +kernel
theorem dX7_heard_124 : decode cX7_heard 124 = .ok (.aload_n 0, 1) := by decide +kernel
theorem dX7_heard_125 : decode cX7_heard 125 = .ok (.getfield 27, 3) := by decide +kernel
theorem dX7_heard_128 : decode cX7_heard 128 = .ok (.aload_n 0, 1) := by decide +kernel
theorem dX7_heard_129 : decode cX7_heard 129 = .ok (.getfield 46, 3) := by decide +kernel
theorem dX7_heard_132 : decode cX7_heard 132 = .ok (.iload_n 1, 1) := by decide +kernel
theorem dX7_heard_133 : decode cX7_heard 133 = .ok (.iaload, 1) := by decide +kernel
theorem dX7_heard_134 : decode cX7_heard 134 = .ok (.if_icmp .le 10, 3) := by decide +kernel
theorem dX7_heard_137 : decode cX7_heard 137 = .ok (.aload_n 0, 1) := by decide +kernel
theorem dX7_heard_138 : decode cX7_heard 138 = .ok (.getfield 27, 3) := by decide +kernel
theorem dX7_heard_141 : decode cX7_heard 141 = .ok (.goto 9, 3) := by decide +kernel
theorem dX7_heard_144 : decode cX7_heard 144 = .ok (.aload_n 0, 1) := by decide +kernel
theorem dX7_heard_145 : decode cX7_heard 145 = .ok (.getfield 46, 3) := by decide +kernel
theorem dX7_heard_148 : decode cX7_heard 148 = .ok (.iload_n 1, 1) := by decide +kernel
theorem dX7_heard_149 : decode cX7_heard 149 = .ok (.iaload, 1) := by decide +kernel
theorem dX7_heard_150 : decode cX7_heard 150 = .ok (.iastore, 1) := by decide +kernel
theorem dX7_heard_151 : decode cX7_heard 151 = .ok (.aload_n 0, 1) := by decide +kernel
theorem dX7_heard_152 : decode cX7_heard 152 = .ok (.getfield 43, 3) := by decide +kernel
theorem dX7_heard_155 : decode cX7_heard 155 = .ok (.iload_n 1, 1) := by decide +kernel
theorem dX7_heard_156 : decode cX7_heard 156 = .ok (.iconst 1, 1) := by decide +kernel
theorem dX7_heard_157 : decode cX7_heard 157 = .ok (.iastore, 1) := by decide +kernel
theorem dX7_heard_158 : decode cX7_heard 158 = .ok (.goto 25, 3) := by decide +kernel
theorem dX7_heard_161 : decode cX7_heard 161 = .ok (.aload_n 0, 1) := by decide +kernel
theorem dX7_heard_162 : decode cX7_heard 162 = .ok (.getfield 55, 3) := by decide +kernel
theorem dX7_heard_165 : decode cX7_heard 165 = .ok (.bipush 12, 2) := by decide +kernel
theorem dX7_heard_167 : decode cX7_heard 167 = .ok (.aload_n 0, 1) := by decide +kernel
theorem dX7_heard_168 : decode cX7_heard 168 = .ok (.getfield 55, 3) := by decide +kernel
theorem dX7_heard_171 : decode cX7_heard 171 = .ok (.iload_n 3, 1) := by decide +kernel
theorem dX7_heard_172 : decode cX7_heard 172 = .ok (.iaload, 1) := by decide +kernel
theorem dX7_heard_173 : decode cX7_heard 173 = .ok (.iconst 1, 1) := by decide +kernel
theorem dX7_heard_174 : decode cX7_heard 174 = .ok (.iadd, 1) := by decide +kernel
theorem dX7_heard_175 : decode cX7_heard 175 = .ok (.iastore, 1) := by decide +kernel
theorem dX7_heard_176 : decode cX7_heard 176 = .ok (.aload_n 0, 1) := by decide +kernel
theorem dX7_heard_177 : decode cX7_heard 177 = .ok (.bipush 12, 2) := by decide +kernel
theorem dX7_heard_179 : decode cX7_heard 179 = .ok (.iload_n 3, 1) := by decide +kernel
theorem dX7_heard_180 : decode cX7_heard 180 = .ok (.invokevirtual 97, 3) := by decide +kernel
theorem dX7_heard_183 : decode cX7_heard 183 = .ok (.iconst 0, 1) := by decide +kernel
theorem dX7_heard_184 : decode cX7_heard 184 = .ok (.ireturn, 1) := by decide +kernel
set_option maxRecDepth 20000 in
theorem ggX7_hear_X7_heard : GoodIn wsX7_hear wsX7_heard := goodIn_r _ [10, 11, 12, 13, 14, 15, 16, 17, 18, 19, 20, 9, 21, 22, 3, 23, 24, 25, 26, 27, 28, 29, 30, 31, 32, 33, 34, 35, 36, 37, 38, 39, 40, 41, 42, 43, 44, 45, 46, 47, 48, 49, 50, 51, 52, 53, 54, 55, 56, 57, 58, 59, 60, 61, 62, 63] (by decide +kernel) (by decide +kernel)
set_option maxRecDepth 20000 in
theorem gX7_hear_X7_heard : GoodIn wsX7_hear (wsV RX7 108 RX7 yX7_heard wsX7_heard) := goodIn_app (goodIn_of _ (by decide +kernel)) ggX7_hear_X7_heard
theorem dX7_hear_0 : decode cX7_hear 0 = .ok (.iload_n 1, 1) := by decide +kernel
theorem dX7_hear_1 : decode cX7_hear 1 = .ok (.ifCond .lt 17, 3) := by decide +kernel
theorem dX7_hear_4 : decode cX7_hear 4 = .ok (.iload_n 1, 1) := by decide +kernel
theorem dX7_hear_5 : decode cX7_hear 5 = .ok (.iconst 4, 1) := by decide +kernel
theorem dX7_hear_6 : decode cX7_hear 6 = .ok (.if_icmp .ge 12, 3) := by decide +kernel
theorem dX7_hear_9 : decode cX7_hear 9 = .ok (.aload_n 0, 1) := by decide +kernel
theorem dX7_hear_10 : decode cX7_hear 10 = .ok (.getfield 30, 3) := by decide +kernel
theorem dX7_hear_13 : decode cX7_hear 13 = .ok (.iload_n 1, 1) := by decide +kernel
theorem dX7_hear_14 : decode cX7_hear 14 = .ok (.baload, 1) := by decide +kernel
theorem dX7_hear_15 : decode cX7_hear 15 = .ok (.ifCond .ne 5, 3) := by decide +kernel
theorem dX7_hear_18 : decode cX7_hear 18 = .ok (.iconst (-1), 1) := by decide +kernel
theorem dX7_hear_19 : decode cX7_hear 19 = .ok (.ireturn, 1) := by decide +kernel
theorem dX7_hear_20 : decode cX7_hear 20 = .ok (.aload_n 0, 1) := by decide +kernel
theorem dX7_hear_21 : decode cX7_hear 21 = .ok (.aload_n 0, 1) := by decide +kernel
theorem dX7_hear_22 : decode cX7_hear 22 = .ok (.iload_n 1, 1) := by decide +kernel
theorem dX7_hear_23 : decode cX7_hear 23 = .ok (.invokevirtual 108, 3) := by decide +kernel
theorem dX7_hear_26 : decode cX7_hear 26 = .ok (.putfield 112, 3) := by decide +kernel
theorem dX7_hear_29 : decode cX7_hear 29 = .ok (.aload_n 0, 1) := by decide +kernel
theorem dX7_hear_30 : decode cX7_hear 30 = .ok (.iconst 0, 1) := by decide +kernel
theorem dX7_hear_31 : decode cX7_hear 31 = .ok (.putfield 70, 3) := by decide +kernel
theorem dX7_hear_34 : decode cX7_hear 34 = .ok (.aload_n 0, 1) := by decide +kernel
theorem dX7_hear_35 : decode cX7_hear 35 = .ok (.getfield 112, 3) := by decide +kernel
theorem dX7_hear_38 : decode cX7_hear 38 = .ok (.ifCond .ne 16, 3) := by decide +kernel
theorem dX7_hear_41 : decode cX7_hear 41 = .ok (.aload_n 0, 1) := by decide +kernel
theorem dX7_hear_42 : decode cX7_hear 42 = .ok (.getfield 37, 3) := by decide +kernel
theorem dX7_hear_45 : decode cX7_hear 45 = .ok (.iload_n 1, 1) := by decide +kernel
theorem dX7_hear_46 : decode cX7_hear 46 = .ok (.dup2, 1) := by decide +kernel
theorem dX7_hear_47 : decode cX7_hear 47 = .ok (.iaload, 1) := by decide +kernel
theorem dX7_hear_48 : decode cX7_hear 48 = .ok (.iconst 1, 1) := by decide +kernel
theorem dX7_hear_49 : decode cX7_hear 49 = .ok (.iadd, 1) := by decide +kernel
theorem dX7_hear_50 : decode cX7_hear 50 = .ok (.iastore, 1) := by decide +kernel
theorem dX7_hear_51 : decode cX7_hear 51 = .ok (.goto 13, 3) := by decide +kernel
theorem dX7_hear_54 : decode cX7_hear 54 = .ok (.aload_n 0, 1) := by decide +kernel
theorem dX7_hear_55 : decode cX7_hear 55 = .ok (.getfield 40, 3) := by decide +kernel
theorem dX7_hear_58 : decode cX7_hear 58 = .ok (.iload_n 1, 1) := by decide +kernel
theorem dX7_hear_59 : decode cX7_hear 59 = .ok (.dup2, 1) := by decide +kernel
theorem dX7_hear_60 : decode cX7_hear 60 = .ok (.iaload, 1) := by decide +kernel
theorem dX7_hear_61 : decode cX7_hear 61 = .ok (.iconst 1, 1) := by decide +kernel
theorem dX7_hear_62 : decode cX7_hear 62 = .ok (.iadd, 1) := by decide +kernel
theorem dX7_hear_63 : decode cX7_hear 63 = .ok (.iastore, 1) := by decide +kernel
theorem dX7_hear_64 : decode cX7_hear 64 = .ok (.aload_n 0, 1) := by decide +kernel
theorem dX7_hear_65 : decode cX7_hear 65 = .ok (.getfield 112, 3) := by decide +kernel
theorem dX7_hear_68 : decode cX7_hear 68 = .ok (.ireturn, 1) := by decide +kernel
set_option maxRecDepth 20000 in
theorem ggX7_tick_X7_forget : GoodIn wsX7_tick wsX7_forget := goodIn_r _ [15, 3, 16, 17, 18, 14, 19, 20, 4, 21, 22, 23, 42, 43, 44, 45, 46, 47, 48, 49, 50, 51, 52, 53, 54, 55, 56, 57, 58, 59, 60, 61, 62, 63, 64, 65] (by decide +kernel) (by decide +kernel)
set_option maxRecDepth 20000 in
theorem gX7_tick_X7_forget : GoodIn wsX7_tick (wsV RX7 94 RX7 yX7_forget wsX7_forget) := goodIn_app (goodIn_of _ (by decide +kernel)) ggX7_tick_X7_forget
set_option maxRecDepth 20000 in
theorem ggX7_tick_X7_send : GoodIn wsX7_tick wsX7_send := goodIn_r _ [27, 28, 29, 30, 31, 32, 33, 34, 35, 14, 36, 37, 38, 39, 40, 41, 42, 43, 44, 45, 46, 47, 48, 49, 50, 51, 52, 53, 54, 55, 56, 57, 58, 59, 60, 61, 62, 63, 64, 65] (by decide +kernel) (by decide +kernel)
set_option maxRecDepth 20000 in
theorem gX7_tick_X7_send : GoodIn wsX7_tick (wsV RX7 88 RX7 yX7_send wsX7_send) := goodIn_app (goodIn_of _ (by decide +kernel)) ggX7_tick_X7_send
theorem dX7_tick_0 : decode cX7_tick 0 = .ok (.iload_n 1, 1) := by decide +kernel
theorem dX7_tick_1 : decode cX7_tick 1 = .ok (.iconst 1, 1) := by decide +kernel
theorem dX7_tick_2 : decode cX7_tick 2 = .ok (.if_icmp .lt 10, 3) := by decide +kernel
theorem dX7_tick_5 : decode cX7_tick 5 = .ok (.iload_n 1, 1) := by decide +kernel
theorem dX7_tick_6 : decode cX7_tick 6 = .ok (.sipush 5000, 3) := by decide +kernel
theorem dX7_tick_9 : decode cX7_tick 9 = .ok (.if_icmp .le 5, 3) := by decide +kernel
theorem dX7_tick_12 : decode cX7_tick 12 = .ok (.iconst (-1), 1) := by decide +kernel
theorem dX7_tick_13 : decode cX7_tick 13 = .ok (.ireturn, 1) := by decide +kernel
theorem dX7_tick_14 : decode cX7_tick 14 = .ok (.iconst 0, 1) := by decide +kernel
theorem dX7_tick_15 : decode cX7_tick 15 = .ok (.istore_n 2, 1) := by decide +kernel
theorem dX7_tick_16 : decode cX7_tick 16 = .ok (.iconst 0, 1) := by decide +kernel
theorem dX7_tick_17 : decode cX7_tick 17 = .ok (.istore_n 3, 1) := by decide +kernel
theorem dX7_tick_18 : decode cX7_tick 18 = .ok (.iload_n 3, 1) := by decide +kernel
theorem dX7_tick_19 : decode cX7_tick 19 = .ok (.iload_n 1, 1) := by decide +kernel
theorem dX7_tick_20 : decode cX7_tick 20 = .ok (.if_icmp .ge 202, 3) := by decide +kernel
theorem dX7_tick_23 : decode cX7_tick 23 = .ok (.aload_n 0, 1) := by decide +kernel
theorem dX7_tick_24 : decode cX7_tick 24 = .ok (.aload_n 0, 1) := by decide +kernel
theorem dX7_tick_25 : decode cX7_tick 25 = .ok (.getfield 115, 3) := by decide +kernel
theorem dX7_tick_28 : decode cX7_tick 28 = .ok (.iconst 1, 1) := by decide +kernel
theorem dX7_tick_29 : decode cX7_tick 29 = .ok (.iadd, 1) := by decide +kernel
theorem dX7_tick_30 : decode cX7_tick 30 = .ok (.ldc 118, 2) := by decide +kernel
theorem dX7_tick_32 : decode cX7_tick 32 = .ok (.iand, 1) := by decide +kernel
theorem dX7_tick_33 : decode cX7_tick 33 = .ok (.putfield 115, 3) := by decide +kernel
theorem dX7_tick_36 : decode cX7_tick 36 = .ok (.aload_n 0, 1) := by decide +kernel
theorem dX7_tick_37 : decode cX7_tick 37 = .ok (.getfield 91, 3) := by decide +kernel
theorem dX7_tick_40 : decode cX7_tick 40 = .ok (.iconst 1, 1) := by decide +kernel
theorem dX7_tick_41 : decode cX7_tick 41 = .ok (.isub, 1) := by decide +kernel
theorem dX7_tick_42 : decode cX7_tick 42 = .ok (.istore 4, 2) := by decide +kernel
theorem dX7_tick_44 : decode cX7_tick 44 = .ok (.iload 4, 2) := by decide +kernel
theorem dX7_tick_46 : decode cX7_tick 46 = .ok (.ifCond .lt 36, 3) := by decide +kernel
theorem dX7_tick_49 : decode cX7_tick 49 = .ok (.aload_n 0, 1) := by decide +kernel
theorem dX7_tick_50 : decode cX7_tick 50 = .ok (.getfield 52, 3) := by decide +kernel
theorem dX7_tick_53 : decode cX7_tick 53 = .ok (.iload 4, 2) := by decide +kernel
theorem dX7_tick_55 : decode cX7_tick 55 = .ok (.dup2, 1) := by decide +kernel
theorem dX7_tick_56 : decode cX7_tick 56 = .ok (.iaload, 1) := by decide +kernel
theorem dX7_tick_57 : decode cX7_tick 57 = .ok (.iconst 1, 1) := by decide +kernel
theorem dX7_tick_58 : decode cX7_tick 58 = .ok (.isub, 1) := by decide +kernel
theorem dX7_tick_59 : decode cX7_tick 59 = .ok (.iastore, 1) := by decide +kernel
theorem dX7_tick_60 : decode cX7_tick 60 = .ok (.aload_n 0, 1) := by decide +kernel
theorem dX7_tick_61 : decode cX7_tick 61 = .ok (.getfield 52, 3) := by decide +kernel
theorem dX7_tick_64 : decode cX7_tick 64 = .ok (.iload 4, 2) := by decide +kernel
theorem dX7_tick_66 : decode cX7_tick 66 = .ok (.iaload, 1) := by decide +kernel
theorem dX7_tick_67 : decode cX7_tick 67 = .ok (.ifCond .ne 9, 3) := by decide +kernel
theorem dX7_tick_70 : decode cX7_tick 70 = .ok (.aload_n 0, 1) := by decide +kernel
theorem dX7_tick_71 : decode cX7_tick 71 = .ok (.iload 4, 2) := by decide +kernel
theorem dX7_tick_73 : decode cX7_tick 73 = .ok (.invokevirtual 94, 3) := by decide +kernel
theorem dX7_tick_76 : decode cX7_tick 76 = .ok (.iinc 4 (-1), 3) := by decide +kernel
theorem dX7_tick_79 : decode cX7_tick 79 = .ok (.goto (-35), 3) := by decide +kernel
theorem dX7_tick_82 : decode cX7_tick 82 = .ok (.iconst 0, 1) := by decide +kernel
theorem dX7_tick_83 : decode cX7_tick 83 = .ok (.istore 4, 2) := by decide +kernel
theorem dX7_tick_85 : decode cX7_tick 85 = .ok (.iload 4, 2) := by decide +kernel
theorem dX7_tick_87 : decode cX7_tick 87 = .ok (.iconst 4, 1) := by decide +kernel
theorem dX7_tick_88 : decode cX7_tick 88 = .ok (.if_icmp .ge 128, 3) := by decide +kernel
theorem dX7_tick_91 : decode cX7_tick 91 = .ok (.aload_n 0, 1) := by decide +kernel
theorem dX7_tick_92 : decode cX7_tick 92 = .ok (.getfield 30, 3) := by decide +kernel
theorem dX7_tick_95 : decode cX7_tick 95 = .ok (.iload 4, 2) := by decide +kernel
theorem dX7_tick_97 : decode cX7_tick 97 = .ok (.baload, 1) := by decide +kernel
theorem dX7_tick_98 : decode cX7_tick 98 = .ok (.ifCond .ne 6, 3) := by decide +kernel
theorem dX7_tick_101 : decode cX7_tick 101 = .ok (.goto 109, 3) := by decide +kernel
theorem dX7_tick_104 : decode cX7_tick 104 = .ok (.aload_n 0, 1) := by decide +kernel
theorem dX7_tick_105 : decode cX7_tick 105 = .ok (.getfield 43, 3) := by decide +kernel
theorem dX7_tick_108 : decode cX7_tick 108 = .ok (.iload 4, 2) := by decide +kernel
theorem dX7_tick_110 : decode cX7_tick 110 = .ok (.dup2, 1) := by decide +kernel
theorem dX7_tick_111 : decode cX7_tick 111 = .ok (.iaload, 1) := by decide +kernel
theorem dX7_tick_112 : decode cX7_tick 112 = .ok (.iconst 1, 1) := by decide +kernel
theorem dX7_tick_113 : decode cX7_tick 113 = .ok (.isub, 1) := by decide +kernel
theorem dX7_tick_114 : decode cX7_tick 114 = .ok (.iastore, 1) := by decide +kernel
theorem dX7_tick_115 : decode cX7_tick 115 = .ok (.aload_n 0, 1) := by decide +kernel
theorem dX7_tick_116 : decode cX7_tick 116 = .ok (.getfield 43, 3) := by decide +kernel
theorem dX7_tick_119 : decode cX7_tick 119 = .ok (.iload 4, 2) := by decide +kernel
theorem dX7_tick_121 : decode cX7_tick 121 = .ok (.iaload, 1) := by decide +kernel
theorem dX7_tick_122 : decode cX7_tick 122 = .ok (.ifCond .le 6, 3) := by decide +kernel
theorem dX7_tick_125 : decode cX7_tick 125 = .ok (.goto 85, 3) := by decide +kernel
theorem dX7_tick_128 : decode cX7_tick 128 = .ok (.aload_n 0, 1) := by decide +kernel
theorem dX7_tick_129 : decode cX7_tick 129 = .ok (.getfield 20, 3) := by decide +kernel
theorem dX7_tick_132 : decode cX7_tick 132 = .ok (.aload_n 0, 1) := by decide +kernel
theorem dX7_tick_133 : decode cX7_tick 133 = .ok (.getfield 24, 3) := by decide +kernel
theorem dX7_tick_136 : decode cX7_tick 136 = .ok (.imul, 1) := by decide +kernel
theorem dX7_tick_137 : decode cX7_tick 137 = .ok (.iconst 1, 1) := by decide +kernel
theorem dX7_tick_138 : decode cX7_tick 138 = .ok (.iadd, 1) := by decide +kernel
theorem dX7_tick_139 : decode cX7_tick 139 = .ok (.istore 5, 2) := by decide +kernel
theorem dX7_tick_141 : decode cX7_tick 141 = .ok (.aload_n 0, 1) := by decide +kernel
theorem dX7_tick_142 : decode cX7_tick 142 = .ok (.iload 4, 2) := by decide +kernel
theorem dX7_tick_144 : decode cX7_tick 144 = .ok (.iload 5, 2) := by decide +kernel
theorem dX7_tick_146 : decode cX7_tick 146 = .ok (.ldc 119, 2) := by decide +kernel
theorem dX7_tick_148 : decode cX7_tick 148 = .ok (.if_icmp .le 8, 3) := by decide +kernel
theorem dX7_tick_151 : decode cX7_tick 151 = .ok (.ldc 119, 2) := by decide +kernel
theorem dX7_tick_153 : decode cX7_tick 153 = .ok (.goto 5, 3) := by decide +kernel
theorem dX7_tick_156 : decode cX7_tick 156 = .ok (.iload 5, 2) := by decide +kernel
theorem dX7_tick_158 : decode cX7_tick 158 = .ok (.invokevirtual 88, 3) := by decide +kernel
theorem dX7_tick_161 : decode cX7_tick 161 = .ok (.iinc 2 1, 3) := by decide +kernel
theorem dX7_tick_164 : decode cX7_tick 164 = .ok (.aload_n 0, 1) := by decide +kernel
theorem dX7_tick_165 : decode cX7_tick 165 = .ok (.getfield 46, 3) := by decide +kernel
theorem dX7_tick_168 : decode cX7_tick 168 = .ok (.iload 4, 2) := by decide +kernel
theorem dX7_tick_170 : decode cX7_tick 170 = .ok (.iaload, 1) := by decide +kernel
theorem dX7_tick_171 : decode cX7_tick 171 = .ok (.ifCond .le 14, 3) := by decide +kernel
theorem dX7_tick_174 : decode cX7_tick 174 = .ok (.aload_n 0, 1) := by decide +kernel
theorem dX7_tick_175 : decode cX7_tick 175 = .ok (.getfield 46, 3) := by decide +kernel
theorem dX7_tick_178 : decode cX7_tick 178 = .ok (.iload 4, 2) := by decide +kernel
theorem dX7_tick_180 : decode cX7_tick 180 = .ok (.dup2, 1) := by decide +kernel
theorem dX7_tick_181 : decode cX7_tick 181 = .ok (.iaload, 1) := by decide +kernel
theorem dX7_tick_182 : decode cX7_tick 182 = .ok (.iconst 1, 1) := by decide +kernel
theorem dX7_tick_183 : decode cX7_tick 183 = .ok (.isub, 1) := by decide +kernel
theorem dX7_tick_184 : decode cX7_tick 184 = .ok (.iastore, 1) := by decide +kernel
theorem dX7_tick_185 : decode cX7_tick 185 = .ok (.aload_n 0, 1) := by decide +kernel
theorem dX7_tick_186 : decode cX7_tick 186 = .ok (.getfield 43, 3) := by decide +kernel
theorem dX7_tick_189 : decode cX7_tick 189 = .ok (.iload 4, 2) := by decide +kernel
theorem dX7_tick_191 : decode cX7_tick 191 = .ok (.aload_n 0, 1) := by decide +kernel
theorem dX7_tick_192 : decode cX7_tick 192 = .ok (.getfield 46, 3) := by decide +kernel
theorem dX7_tick_195 : decode cX7_tick 195 = .ok (.iload 4, 2) := by decide +kernel
theorem dX7_tick_197 : decode cX7_tick 197 = .ok (.iaload, 1) := by decide +kernel
theorem dX7_tick_198 : decode cX7_tick 198 = .ok (.ifCond .le 7, 3) := by decide +kernel
theorem dX7_tick_201 : decode cX7_tick 201 = .ok (.iconst 1, 1) := by decide +kernel
theorem dX7_tick_202 : decode cX7_tick 202 = .ok (.goto 7, 3) := by decide +kernel
theorem dX7_tick_205 : decode cX7_tick 205 = .ok (.aload_n 0, 1) := by decide +kernel
theorem dX7_tick_206 : decode cX7_tick 206 = .ok (.getfield 20, 3) := by decide +kernel
theorem dX7_tick_209 : decode cX7_tick 209 = .ok (.iastore, 1) := by decide +kernel
theorem dX7_tick_210 : decode cX7_tick 210 = .ok (.iinc 4 1, 3) := by decide +kernel
theorem dX7_tick_213 : decode cX7_tick 213 = .ok (.goto (-128), 3) := by decide +kernel
theorem dX7_tick_216 : decode cX7_tick 216 = .ok (.iinc 3 1, 3) := by decide +kernel
theorem dX7_tick_219 : decode cX7_tick 219 = .ok (.goto (-201), 3) := by decide +kernel
theorem dX7_tick_222 : decode cX7_tick 222 = .ok (.iload_n 2, 1) := by decide +kernel
theorem dX7_tick_223 : decode cX7_tick 223 = .ok (.ireturn, 1) := by decide +kernel
theorem dX7_about_0 : decode cX7_about 0 = .ok (.iload_n 1, 1) := by decide +kernel
theorem dX7_about_1 : decode cX7_about 1 = .ok (.ifCond .lt 8, 3) := by decide +kernel
theorem dX7_about_4 : decode cX7_about 4 = .ok (.iload_n 1, 1) := by decide +kernel
theorem dX7_about_5 : decode cX7_about 5 = .ok (.iconst 4, 1) := by decide +kernel
theorem dX7_about_6 : decode cX7_about 6 = .ok (.if_icmp .lt 5, 3) := by decide +kernel
theorem dX7_about_9 : decode cX7_about 9 = .ok (.iconst (-1), 1) := by decide +kernel
theorem dX7_about_10 : decode cX7_about 10 = .ok (.ireturn, 1) := by decide +kernel
theorem dX7_about_11 : decode cX7_about 11 = .ok (.iconst 0, 1) := by decide +kernel
theorem dX7_about_12 : decode cX7_about 12 = .ok (.istore_n 3, 1) := by decide +kernel
theorem dX7_about_13 : decode cX7_about 13 = .ok (.iconst 0, 1) := by decide +kernel
theorem dX7_about_14 : decode cX7_about 14 = .ok (.istore 4, 2) := by decide +kernel
theorem dX7_about_16 : decode cX7_about 16 = .ok (.iload 4, 2) := by decide +kernel
theorem dX7_about_18 : decode cX7_about 18 = .ok (.aload_n 0, 1) := by decide +kernel
theorem dX7_about_19 : decode cX7_about 19 = .ok (.getfield 91, 3) := by decide +kernel
theorem dX7_about_22 : decode cX7_about 22 = .ok (.if_icmp .ge 28, 3) := by decide +kernel
theorem dX7_about_25 : decode cX7_about 25 = .ok (.iload_n 3, 1) := by decide +kernel
theorem dX7_about_26 : decode cX7_about 26 = .ok (.aload_n 0, 1) := by decide +kernel
theorem dX7_about_27 : decode cX7_about 27 = .ok (.getfield 49, 3) := by decide +kernel
theorem dX7_about_30 : decode cX7_about 30 = .ok (.iload 4, 2) := by decide +kernel
theorem dX7_about_32 : decode cX7_about 32 = .ok (.iaload, 1) := by decide +kernel
theorem dX7_about_33 : decode cX7_about 33 = .ok (.iload_n 1, 1) := by decide +kernel
theorem dX7_about_34 : decode cX7_about 34 = .ok (.if_icmp .ne 7, 3) := by decide +kernel
theorem dX7_about_37 : decode cX7_about 37 = .ok (.iconst 1, 1) := by decide +kernel
theorem dX7_about_38 : decode cX7_about 38 = .ok (.goto 4, 3) := by decide +kernel
theorem dX7_about_41 : decode cX7_about 41 = .ok (.iconst 0, 1) := by decide +kernel
theorem dX7_about_42 : decode cX7_about 42 = .ok (.iadd, 1) := by decide +kernel
theorem dX7_about_43 : decode cX7_about 43 = .ok (.istore_n 3, 1) := by decide +kernel
theorem dX7_about_44 : decode cX7_about 44 = .ok (.iinc 4 1, 3) := by decide +kernel
theorem dX7_about_47 : decode cX7_about 47 = .ok (.goto (-31), 3) := by decide +kernel
theorem dX7_about_50 : decode cX7_about 50 = .ok (.iload_n 2, 1) := by decide +kernel
theorem dX7_about_51 : decode cX7_about 51 = .ok (.tableswitch 93 0 6 #[41, 56, 63, 70, 77, 79, 86], 41) := by decide +kernel
theorem dX7_about_92 : decode cX7_about 92 = .ok (.aload_n 0, 1) := by decide +kernel
theorem dX7_about_93 : decode cX7_about 93 = .ok (.getfield 30, 3) := by decide +kernel
theorem dX7_about_96 : decode cX7_about 96 = .ok (.iload_n 1, 1) := by decide +kernel
theorem dX7_about_97 : decode cX7_about 97 = .ok (.baload, 1) := by decide +kernel
theorem dX7_about_98 : decode cX7_about 98 = .ok (.ifCond .eq 7, 3) := by decide +kernel
theorem dX7_about_101 : decode cX7_about 101 = .ok (.iconst 1, 1) := by decide +kernel
theorem dX7_about_102 : decode cX7_about 102 = .ok (.goto 4, 3) := by decide +kernel
theorem dX7_about_105 : decode cX7_about 105 = .ok (.iconst 0, 1) := by decide +kernel
theorem dX7_about_106 : decode cX7_about 106 = .ok (.ireturn, 1) := by decide +kernel
theorem dX7_about_107 : decode cX7_about 107 = .ok (.aload_n 0, 1) := by decide +kernel
theorem dX7_about_108 : decode cX7_about 108 = .ok (.getfield 34, 3) := by decide +kernel
theorem dX7_about_111 : decode cX7_about 111 = .ok (.iload_n 1, 1) := by decide +kernel
theorem dX7_about_112 : decode cX7_about 112 = .ok (.iaload, 1) := by decide +kernel
theorem dX7_about_113 : decode cX7_about 113 = .ok (.ireturn, 1) := by decide +kernel
theorem dX7_about_114 : decode cX7_about 114 = .ok (.aload_n 0, 1) := by decide +kernel
theorem dX7_about_115 : decode cX7_about 115 = .ok (.getfield 37, 3) := by decide +kernel
theorem dX7_about_118 : decode cX7_about 118 = .ok (.iload_n 1, 1) := by decide +kernel
theorem dX7_about_119 : decode cX7_about 119 = .ok (.iaload, 1) := by decide +kernel
theorem dX7_about_120 : decode cX7_about 120 = .ok (.ireturn, 1) := by decide +kernel
theorem dX7_about_121 : decode cX7_about 121 = .ok (.aload_n 0, 1) := by decide +kernel
theorem dX7_about_122 : decode cX7_about 122 = .ok (.getfield 40, 3) := by decide +kernel
theorem dX7_about_125 : decode cX7_about 125 = .ok (.iload_n 1, 1) := by decide +kernel
theorem dX7_about_126 : decode cX7_about 126 = .ok (.iaload, 1) := by decide +kernel
theorem dX7_about_127 : decode cX7_about 127 = .ok (.ireturn, 1) := by decide +kernel
theorem dX7_about_128 : decode cX7_about 128 = .ok (.iload_n 3, 1) := by decide +kernel
theorem dX7_about_129 : decode cX7_about 129 = .ok (.ireturn, 1) := by decide +kernel
theorem dX7_about_130 : decode cX7_about 130 = .ok (.aload_n 0, 1) := by decide +kernel
theorem dX7_about_131 : decode cX7_about 131 = .ok (.getfield 43, 3) := by decide +kernel
theorem dX7_about_134 : decode cX7_about 134 = .ok (.iload_n 1, 1) := by decide +kernel
theorem dX7_about_135 : decode cX7_about 135 = .ok (.iaload, 1) := by decide +kernel
theorem dX7_about_136 : decode cX7_about 136 = .ok (.ireturn, 1) := by decide +kernel
theorem dX7_about_137 : decode cX7_about 137 = .ok (.aload_n 0, 1) := by decide +kernel
theorem dX7_about_138 : decode cX7_about 138 = .ok (.getfield 46, 3) := by decide +kernel
theorem dX7_about_141 : decode cX7_about 141 = .ok (.iload_n 1, 1) := by decide +kernel
theorem dX7_about_142 : decode cX7_about 142 = .ok (.iaload, 1) := by decide +kernel
theorem dX7_about_143 : decode cX7_about 143 = .ok (.ireturn, 1) := by decide +kernel
theorem dX7_about_144 : decode cX7_about 144 = .ok (.iconst (-1), 1) := by decide +kernel
theorem dX7_about_145 : decode cX7_about 145 = .ok (.ireturn, 1) := by decide +kernel
theorem dX7_count_0 : decode cX7_count 0 = .ok (.iload_n 1, 1) := by decide +kernel
theorem dX7_count_1 : decode cX7_count 1 = .ok (.tableswitch 69 0 5 #[39, 44, 49, 54, 59, 64], 39) := by decide +kernel
theorem dX7_count_40 : decode cX7_count 40 = .ok (.aload_n 0, 1) := by decide +kernel
theorem dX7_count_41 : decode cX7_count 41 = .ok (.getfield 91, 3) := by decide +kernel
theorem dX7_count_44 : decode cX7_count 44 = .ok (.ireturn, 1) := by decide +kernel
theorem dX7_count_45 : decode cX7_count 45 = .ok (.aload_n 0, 1) := by decide +kernel
theorem dX7_count_46 : decode cX7_count 46 = .ok (.getfield 115, 3) := by decide +kernel
theorem dX7_count_49 : decode cX7_count 49 = .ok (.ireturn, 1) := by decide +kernel
theorem dX7_count_50 : decode cX7_count 50 = .ok (.aload_n 0, 1) := by decide +kernel
theorem dX7_count_51 : decode cX7_count 51 = .ok (.getfield 112, 3) := by decide +kernel
theorem dX7_count_54 : decode cX7_count 54 = .ok (.ireturn, 1) := by decide +kernel
theorem dX7_count_55 : decode cX7_count 55 = .ok (.aload_n 0, 1) := by decide +kernel
theorem dX7_count_56 : decode cX7_count 56 = .ok (.getfield 70, 3) := by decide +kernel
theorem dX7_count_59 : decode cX7_count 59 = .ok (.ireturn, 1) := by decide +kernel
theorem dX7_count_60 : decode cX7_count 60 = .ok (.aload_n 0, 1) := by decide +kernel
theorem dX7_count_61 : decode cX7_count 61 = .ok (.getfield 67, 3) := by decide +kernel
theorem dX7_count_64 : decode cX7_count 64 = .ok (.ireturn, 1) := by decide +kernel
theorem dX7_count_65 : decode cX7_count 65 = .ok (.aload_n 0, 1) := by decide +kernel
theorem dX7_count_66 : decode cX7_count 66 = .ok (.getfield 77, 3) := by decide +kernel
theorem dX7_count_69 : decode cX7_count 69 = .ok (.ireturn, 1) := by decide +kernel
theorem dX7_count_70 : decode cX7_count 70 = .ok (.iconst (-1), 1) := by decide +kernel
theorem dX7_count_71 : decode cX7_count 71 = .ok (.ireturn, 1) := by decide +kernel
theorem dX7_sent_0 : decode cX7_sent 0 = .ok (.iload_n 1, 1) := by decide +kernel
theorem dX7_sent_1 : decode cX7_sent 1 = .ok (.ifCond .lt 24, 3) := by decide +kernel
theorem dX7_sent_4 : decode cX7_sent 4 = .ok (.iload_n 1, 1) := by decide +kernel
theorem dX7_sent_5 : decode cX7_sent 5 = .ok (.aload_n 0, 1) := by decide +kernel
theorem dX7_sent_6 : decode cX7_sent 6 = .ok (.getfield 77, 3) := by decide +kernel
theorem dX7_sent_9 : decode cX7_sent 9 = .ok (.if_icmp .ge 16, 3) := by decide +kernel
theorem dX7_sent_12 : decode cX7_sent 12 = .ok (.aload_n 0, 1) := by decide +kernel
theorem dX7_sent_13 : decode cX7_sent 13 = .ok (.getfield 64, 3) := by decide +kernel
theorem dX7_sent_16 : decode cX7_sent 16 = .ok (.iload_n 1, 1) := by decide +kernel
theorem dX7_sent_17 : decode cX7_sent 17 = .ok (.baload, 1) := by decide +kernel
theorem dX7_sent_18 : decode cX7_sent 18 = .ok (.sipush 255, 3) := by decide +kernel
theorem dX7_sent_21 : decode cX7_sent 21 = .ok (.iand, 1) := by decide +kernel
theorem dX7_sent_22 : decode cX7_sent 22 = .ok (.goto 4, 3) := by decide +kernel
theorem dX7_sent_25 : decode cX7_sent 25 = .ok (.iconst (-1), 1) := by decide +kernel
theorem dX7_sent_26 : decode cX7_sent 26 = .ok (.ireturn, 1) := by decide +kernel
theorem dX7_neighbor_0 : decode cX7_neighbor 0 = .ok (.iload_n 1, 1) := by decide +kernel
theorem dX7_neighbor_1 : decode cX7_neighbor 1 = .ok (.ifCond .lt 20, 3) := by decide +kernel
theorem dX7_neighbor_4 : decode cX7_neighbor 4 = .ok (.iload_n 1, 1) := by decide +kernel
theorem dX7_neighbor_5 : decode cX7_neighbor 5 = .ok (.aload_n 0, 1) := by decide +kernel
theorem dX7_neighbor_6 : decode cX7_neighbor 6 = .ok (.getfield 91, 3) := by decide +kernel
theorem dX7_neighbor_9 : decode cX7_neighbor 9 = .ok (.if_icmp .ge 12, 3) := by decide +kernel
theorem dX7_neighbor_12 : decode cX7_neighbor 12 = .ok (.iload_n 2, 1) := by decide +kernel
theorem dX7_neighbor_13 : decode cX7_neighbor 13 = .ok (.ifCond .lt 8, 3) := by decide +kernel
theorem dX7_neighbor_16 : decode cX7_neighbor 16 = .ok (.iload_n 2, 1) := by decide +kernel
theorem dX7_neighbor_17 : decode cX7_neighbor 17 = .ok (.iconst 3, 1) := by decide +kernel
theorem dX7_neighbor_18 : decode cX7_neighbor 18 = .ok (.if_icmp .le 5, 3) := by decide +kernel
theorem dX7_neighbor_21 : decode cX7_neighbor 21 = .ok (.iconst (-1), 1) := by decide +kernel
theorem dX7_neighbor_22 : decode cX7_neighbor 22 = .ok (.ireturn, 1) := by decide +kernel
theorem dX7_neighbor_23 : decode cX7_neighbor 23 = .ok (.iload_n 2, 1) := by decide +kernel
theorem dX7_neighbor_24 : decode cX7_neighbor 24 = .ok (.ifCond .ne 10, 3) := by decide +kernel
theorem dX7_neighbor_27 : decode cX7_neighbor 27 = .ok (.aload_n 0, 1) := by decide +kernel
theorem dX7_neighbor_28 : decode cX7_neighbor 28 = .ok (.getfield 49, 3) := by decide +kernel
theorem dX7_neighbor_31 : decode cX7_neighbor 31 = .ok (.iload_n 1, 1) := by decide +kernel
theorem dX7_neighbor_32 : decode cX7_neighbor 32 = .ok (.iaload, 1) := by decide +kernel
theorem dX7_neighbor_33 : decode cX7_neighbor 33 = .ok (.ireturn, 1) := by decide +kernel
theorem dX7_neighbor_34 : decode cX7_neighbor 34 = .ok (.iload_n 2, 1) := by decide +kernel
theorem dX7_neighbor_35 : decode cX7_neighbor 35 = .ok (.iconst 1, 1) := by decide +kernel
theorem dX7_neighbor_36 : decode cX7_neighbor 36 = .ok (.if_icmp .ne 10, 3) := by decide +kernel
theorem dX7_neighbor_39 : decode cX7_neighbor 39 = .ok (.aload_n 0, 1) := by decide +kernel
theorem dX7_neighbor_40 : decode cX7_neighbor 40 = .ok (.getfield 52, 3) := by decide +kernel
theorem dX7_neighbor_43 : decode cX7_neighbor 43 = .ok (.iload_n 1, 1) := by decide +kernel
theorem dX7_neighbor_44 : decode cX7_neighbor 44 = .ok (.iaload, 1) := by decide +kernel
theorem dX7_neighbor_45 : decode cX7_neighbor 45 = .ok (.ireturn, 1) := by decide +kernel
theorem dX7_neighbor_46 : decode cX7_neighbor 46 = .ok (.iload_n 2, 1) := by decide +kernel
theorem dX7_neighbor_47 : decode cX7_neighbor 47 = .ok (.iconst 2, 1) := by decide +kernel
theorem dX7_neighbor_48 : decode cX7_neighbor 48 = .ok (.if_icmp .ne 10, 3) := by decide +kernel
theorem dX7_neighbor_51 : decode cX7_neighbor 51 = .ok (.aload_n 0, 1) := by decide +kernel
theorem dX7_neighbor_52 : decode cX7_neighbor 52 = .ok (.getfield 55, 3) := by decide +kernel
theorem dX7_neighbor_55 : decode cX7_neighbor 55 = .ok (.iload_n 1, 1) := by decide +kernel
theorem dX7_neighbor_56 : decode cX7_neighbor 56 = .ok (.iaload, 1) := by decide +kernel
theorem dX7_neighbor_57 : decode cX7_neighbor 57 = .ok (.ireturn, 1) := by decide +kernel
theorem dX7_neighbor_58 : decode cX7_neighbor 58 = .ok (.iconst 0, 1) := by decide +kernel
theorem dX7_neighbor_59 : decode cX7_neighbor 59 = .ok (.istore_n 3, 1) := by decide +kernel
theorem dX7_neighbor_60 : decode cX7_neighbor 60 = .ok (.iconst 1, 1) := by decide +kernel
theorem dX7_neighbor_61 : decode cX7_neighbor 61 = .ok (.istore 4, 2) := by decide +kernel
theorem dX7_neighbor_63 : decode cX7_neighbor 63 = .ok (.iload 4, 2) := by decide +kernel
theorem dX7_neighbor_65 : decode cX7_neighbor 65 = .ok (.bipush 9, 2) := by decide +kernel
theorem dX7_neighbor_67 : decode cX7_neighbor 67 = .ok (.if_icmp .ge 42, 3) := by decide +kernel
theorem dX7_neighbor_70 : decode cX7_neighbor 70 = .ok (.iload_n 3, 1) := by decide +kernel
theorem dX7_neighbor_71 : decode cX7_neighbor 71 = .ok (.iload 4, 2) := by decide +kernel
theorem dX7_neighbor_73 : decode cX7_neighbor 73 = .ok (.iconst 3, 1) := by decide +kernel
theorem dX7_neighbor_74 : decode cX7_neighbor 74 = .ok (.if_icmp .eq 26, 3) := by decide +kernel
theorem dX7_neighbor_77 : decode cX7_neighbor 77 = .ok (.aload_n 0, 1) := by decide +kernel
theorem dX7_neighbor_78 : decode cX7_neighbor 78 = .ok (.getfield 61, 3) := by decide +kernel
theorem dX7_neighbor_81 : decode cX7_neighbor 81 = .ok (.bipush 9, 2) := by decide +kernel
theorem dX7_neighbor_83 : decode cX7_neighbor 83 = .ok (.iload_n 1, 1) := by decide +kernel
theorem dX7_neighbor_84 : decode cX7_neighbor 84 = .ok (.imul, 1) := by decide +kernel
theorem dX7_neighbor_85 : decode cX7_neighbor 85 = .ok (.iload 4, 2) := by decide +kernel
theorem dX7_neighbor_87 : decode cX7_neighbor 87 = .ok (.iadd, 1) := by decide +kernel
theorem dX7_neighbor_88 : decode cX7_neighbor 88 = .ok (.iaload, 1) := by decide +kernel
theorem dX7_neighbor_89 : decode cX7_neighbor 89 = .ok (.iconst (-1), 1) := by decide +kernel
theorem dX7_neighbor_90 : decode cX7_neighbor 90 = .ok (.if_icmp .eq 10, 3) := by decide +kernel
theorem dX7_neighbor_93 : decode cX7_neighbor 93 = .ok (.iconst 1, 1) := by decide +kernel
theorem dX7_neighbor_94 : decode cX7_neighbor 94 = .ok (.iload 4, 2) := by decide +kernel
theorem dX7_neighbor_96 : decode cX7_neighbor 96 = .ok (.ishl, 1) := by decide +kernel
theorem dX7_neighbor_97 : decode cX7_neighbor 97 = .ok (.goto 4, 3) := by decide +kernel
theorem dX7_neighbor_100 : decode cX7_neighbor 100 = .ok (.iconst 0, 1) := by decide +kernel
theorem dX7_neighbor_101 : decode cX7_neighbor 101 = .ok (.ior, 1) := by decide +kernel
theorem dX7_neighbor_102 : decode cX7_neighbor 102 = .ok (.istore_n 3, 1) := by decide +kernel
theorem dX7_neighbor_103 : decode cX7_neighbor 103 = .ok (.iinc 4 1, 3) := by decide +kernel
theorem dX7_neighbor_106 : decode cX7_neighbor 106 = .ok (.goto (-43), 3) := by decide +kernel
theorem dX7_neighbor_109 : decode cX7_neighbor 109 = .ok (.iload_n 3, 1) := by decide +kernel
theorem dX7_neighbor_110 : decode cX7_neighbor 110 = .ok (.ireturn, 1) := by decide +kernel
theorem dX7_content_0 : decode cX7_content 0 = .ok (.iload_n 1, 1) := by decide +kernel
theorem dX7_content_1 : decode cX7_content 1 = .ok (.ifCond .lt 27, 3) := by decide +kernel
theorem dX7_content_4 : decode cX7_content 4 = .ok (.iload_n 1, 1) := by decide +kernel
theorem dX7_content_5 : decode cX7_content 5 = .ok (.aload_n 0, 1) := by decide +kernel
theorem dX7_content_6 : decode cX7_content 6 = .ok (.getfield 91, 3) := by decide +kernel
theorem dX7_content_9 : decode cX7_content 9 = .ok (.if_icmp .ge 19, 3) := by decide +kernel
theorem dX7_content_12 : decode cX7_content 12 = .ok (.iload_n 2, 1) := by decide +kernel
theorem dX7_content_13 : decode cX7_content 13 = .ok (.iconst 1, 1) := by decide +kernel
theorem dX7_content_14 : decode cX7_content 14 = .ok (.if_icmp .lt 14, 3) := by decide +kernel
theorem dX7_content_17 : decode cX7_content 17 = .ok (.iload_n 2, 1) := by decide +kernel
theorem dX7_content_18 : decode cX7_content 18 = .ok (.bipush 9, 2) := by decide +kernel
theorem dX7_content_20 : decode cX7_content 20 = .ok (.if_icmp .ge 8, 3) := by decide +kernel
theorem dX7_content_23 : decode cX7_content 23 = .ok (.iload_n 2, 1) := by decide +kernel
theorem dX7_content_24 : decode cX7_content 24 = .ok (.iconst 3, 1) := by decide +kernel
theorem dX7_content_25 : decode cX7_content 25 = .ok (.if_icmp .ne 5, 3) := by decide +kernel
theorem dX7_content_28 : decode cX7_content 28 = .ok (.iconst (-1), 1) := by decide +kernel
theorem dX7_content_29 : decode cX7_content 29 = .ok (.ireturn, 1) := by decide +kernel
theorem dX7_content_30 : decode cX7_content 30 = .ok (.aload_n 0, 1) := by decide +kernel
theorem dX7_content_31 : decode cX7_content 31 = .ok (.getfield 61, 3) := by decide +kernel
theorem dX7_content_34 : decode cX7_content 34 = .ok (.bipush 9, 2) := by decide +kernel
theorem dX7_content_36 : decode cX7_content 36 = .ok (.iload_n 1, 1) := by decide +kernel
theorem dX7_content_37 : decode cX7_content 37 = .ok (.imul, 1) := by decide +kernel
theorem dX7_content_38 : decode cX7_content 38 = .ok (.iload_n 2, 1) := by decide +kernel
theorem dX7_content_39 : decode cX7_content 39 = .ok (.iadd, 1) := by decide +kernel
theorem dX7_content_40 : decode cX7_content 40 = .ok (.iaload, 1) := by decide +kernel
theorem dX7_content_41 : decode cX7_content 41 = .ok (.istore 4, 2) := by decide +kernel
theorem dX7_content_43 : decode cX7_content 43 = .ok (.iload_n 3, 1) := by decide +kernel
theorem dX7_content_44 : decode cX7_content 44 = .ok (.iconst (-1), 1) := by decide +kernel
theorem dX7_content_45 : decode cX7_content 45 = .ok (.if_icmp .eq 9, 3) := by decide +kernel
theorem dX7_content_48 : decode cX7_content 48 = .ok (.iload 4, 2) := by decide +kernel
theorem dX7_content_50 : decode cX7_content 50 = .ok (.iconst (-1), 1) := by decide +kernel
theorem dX7_content_51 : decode cX7_content 51 = .ok (.if_icmp .ne 6, 3) := by decide +kernel
theorem dX7_content_54 : decode cX7_content 54 = .ok (.iload 4, 2) := by decide +kernel
theorem dX7_content_56 : decode cX7_content 56 = .ok (.ireturn, 1) := by decide +kernel
theorem dX7_content_57 : decode cX7_content 57 = .ok (.iload_n 3, 1) := by decide +kernel
theorem dX7_content_58 : decode cX7_content 58 = .ok (.ifCond .lt 32, 3) := by decide +kernel
theorem dX7_content_61 : decode cX7_content 61 = .ok (.iload_n 3, 1) := by decide +kernel
theorem dX7_content_62 : decode cX7_content 62 = .ok (.iload 4, 2) := by decide +kernel
theorem dX7_content_64 : decode cX7_content 64 = .ok (.if_icmp .ge 26, 3) := by decide +kernel
theorem dX7_content_67 : decode cX7_content 67 = .ok (.aload_n 0, 1) := by decide +kernel
theorem dX7_content_68 : decode cX7_content 68 = .ok (.getfield 58, 3) := by decide +kernel
theorem dX7_content_71 : decode cX7_content 71 = .ok (.bipush 9, 2) := by decide +kernel
theorem dX7_content_73 : decode cX7_content 73 = .ok (.iload_n 1, 1) := by decide +kernel
theorem dX7_content_74 : decode cX7_content 74 = .ok (.imul, 1) := by decide +kernel
theorem dX7_content_75 : decode cX7_content 75 = .ok (.iload_n 2, 1) := by decide +kernel
theorem dX7_content_76 : decode cX7_content 76 = .ok (.iadd, 1) := by decide +kernel
theorem dX7_content_77 : decode cX7_content 77 = .ok (.bipush 60, 2) := by decide +kernel
theorem dX7_content_79 : decode cX7_content 79 = .ok (.imul, 1) := by decide +kernel
theorem dX7_content_80 : decode cX7_content 80 = .ok (.iload_n 3, 1) := by decide +kernel
theorem dX7_content_81 : decode cX7_content 81 = .ok (.iadd, 1) := by decide +kernel
theorem dX7_content_82 : decode cX7_content 82 = .ok (.baload, 1) := by decide +kernel
theorem dX7_content_83 : decode cX7_content 83 = .ok (.sipush 255, 3) := by decide +kernel
theorem dX7_content_86 : decode cX7_content 86 = .ok (.iand, 1) := by decide +kernel
theorem dX7_content_87 : decode cX7_content 87 = .ok (.goto 4, 3) := by decide +kernel
theorem dX7_content_90 : decode cX7_content 90 = .ok (.iconst (-1), 1) := by decide +kernel
theorem dX7_content_91 : decode cX7_content 91 = .ok (.ireturn, 1) := by decide +kernel
set_option maxRecDepth 20000 in
theorem ggX7_check_X7_isAlike : GoodIn wsX7_check wsX7_isAlike := goodIn_r _ [8, 3, 9, 10, 11, 12, 13, 14, 15, 16, 17, 18, 19, 20, 21, 22, 23, 24, 25, 26, 27, 28, 29, 30, 31, 32, 33, 34] (by decide +kernel) (by decide +kernel)
set_option maxRecDepth 20000 in
theorem gX7_check_X7_isAlike : GoodIn wsX7_check (wsV RX7 104 RX7 yX7_isAlike wsX7_isAlike) := goodIn_app (goodIn_of _ (by decide +kernel)) ggX7_check_X7_isAlike
theorem dX7_check_0 : decode cX7_check 0 = .ok (.iconst 1, 1) := by decide +kernel
theorem dX7_check_1 : decode cX7_check 1 = .ok (.istore_n 1, 1) := by decide +kernel
theorem dX7_check_2 : decode cX7_check 2 = .ok (.iconst 0, 1) := by decide +kernel
theorem dX7_check_3 : decode cX7_check 3 = .ok (.istore_n 2, 1) := by decide +kernel
theorem dX7_check_4 : decode cX7_check 4 = .ok (.iload_n 2, 1) := by decide +kernel
theorem dX7_check_5 : decode cX7_check 5 = .ok (.aload_n 0, 1) := by decide +kernel
theorem dX7_check_6 : decode cX7_check 6 = .ok (.getfield 91, 3) := by decide +kernel
theorem dX7_check_9 : decode cX7_check 9 = .ok (.if_icmp .ge 65, 3) := by decide +kernel
theorem dX7_check_12 : decode cX7_check 12 = .ok (.iload_n 1, 1) := by decide +kernel
theorem dX7_check_13 : decode cX7_check 13 = .ok (.ifCond .eq 21, 3) := by decide +kernel
theorem dX7_check_16 : decode cX7_check 16 = .ok (.aload_n 0, 1) := by decide +kernel
theorem dX7_check_17 : decode cX7_check 17 = .ok (.getfield 30, 3) := by decide +kernel
theorem dX7_check_20 : decode cX7_check 20 = .ok (.aload_n 0, 1) := by decide +kernel
theorem dX7_check_21 : decode cX7_check 21 = .ok (.getfield 49, 3) := by decide +kernel
theorem dX7_check_24 : decode cX7_check 24 = .ok (.iload_n 2, 1) := by decide +kernel
theorem dX7_check_25 : decode cX7_check 25 = .ok (.iaload, 1) := by decide +kernel
theorem dX7_check_26 : decode cX7_check 26 = .ok (.baload, 1) := by decide +kernel
theorem dX7_check_27 : decode cX7_check 27 = .ok (.ifCond .eq 7, 3) := by decide +kernel
theorem dX7_check_30 : decode cX7_check 30 = .ok (.iconst 1, 1) := by decide +kernel
theorem dX7_check_31 : decode cX7_check 31 = .ok (.goto 4, 3) := by decide +kernel
theorem dX7_check_34 : decode cX7_check 34 = .ok (.iconst 0, 1) := by decide +kernel
theorem dX7_check_35 : decode cX7_check 35 = .ok (.istore_n 1, 1) := by decide +kernel
theorem dX7_check_36 : decode cX7_check 36 = .ok (.iconst 0, 1) := by decide +kernel
theorem dX7_check_37 : decode cX7_check 37 = .ok (.istore_n 3, 1) := by decide +kernel
theorem dX7_check_38 : decode cX7_check 38 = .ok (.iload_n 3, 1) := by decide +kernel
theorem dX7_check_39 : decode cX7_check 39 = .ok (.iload_n 2, 1) := by decide +kernel
theorem dX7_check_40 : decode cX7_check 40 = .ok (.if_icmp .ge 28, 3) := by decide +kernel
theorem dX7_check_43 : decode cX7_check 43 = .ok (.iload_n 1, 1) := by decide +kernel
theorem dX7_check_44 : decode cX7_check 44 = .ok (.ifCond .eq 16, 3) := by decide +kernel
theorem dX7_check_47 : decode cX7_check 47 = .ok (.aload_n 0, 1) := by decide +kernel
theorem dX7_check_48 : decode cX7_check 48 = .ok (.iload_n 2, 1) := by decide +kernel
theorem dX7_check_49 : decode cX7_check 49 = .ok (.iload_n 3, 1) := by decide +kernel
theorem dX7_check_50 : decode cX7_check 50 = .ok (.invokevirtual 104, 3) := by decide +kernel
theorem dX7_check_53 : decode cX7_check 53 = .ok (.ifCond .ne 7, 3) := by decide +kernel
theorem dX7_check_56 : decode cX7_check 56 = .ok (.iconst 1, 1) := by decide +kernel
theorem dX7_check_57 : decode cX7_check 57 = .ok (.goto 4, 3) := by decide +kernel
theorem dX7_check_60 : decode cX7_check 60 = .ok (.iconst 0, 1) := by decide +kernel
theorem dX7_check_61 : decode cX7_check 61 = .ok (.istore_n 1, 1) := by decide +kernel
theorem dX7_check_62 : decode cX7_check 62 = .ok (.iinc 3 1, 3) := by decide +kernel
theorem dX7_check_65 : decode cX7_check 65 = .ok (.goto (-27), 3) := by decide +kernel
theorem dX7_check_68 : decode cX7_check 68 = .ok (.iinc 2 1, 3) := by decide +kernel
theorem dX7_check_71 : decode cX7_check 71 = .ok (.goto (-67), 3) := by decide +kernel
theorem dX7_check_74 : decode cX7_check 74 = .ok (.iload_n 1, 1) := by decide +kernel
theorem dX7_check_75 : decode cX7_check 75 = .ok (.ifCond .eq 7, 3) := by decide +kernel
theorem dX7_check_78 : decode cX7_check 78 = .ok (.iconst 1, 1) := by decide +kernel
theorem dX7_check_79 : decode cX7_check 79 = .ok (.goto 4, 3) := by decide +kernel
theorem dX7_check_82 : decode cX7_check 82 = .ok (.iconst 0, 1) := by decide +kernel
theorem dX7_check_83 : decode cX7_check 83 = .ok (.ireturn, 1) := by decide +kernel
end
section
theorem dJ9_max_7cf53_0 : decode cJ9_max_7cf53 0 = .ok (.iload_n 0, 1) := by decide +kernel
theorem dJ9_max_7cf53_1 : decode cJ9_max_7cf53 1 = .ok (.iload_n 1, 1) := by decide +kernel
theorem dJ9_max_7cf53_2 : decode cJ9_max_7cf53 2 = .ok (.if_icmp .lt 7, 3) := by decide +kernel
theorem dJ9_max_7cf53_5 : decode cJ9_max_7cf53 5 = .ok (.iload_n 0, 1) := by decide +kernel
theorem dJ9_max_7cf53_6 : decode cJ9_max_7cf53 6 = .ok (.goto 4, 3) := by decide +kernel
theorem dJ9_max_7cf53_9 : decode cJ9_max_7cf53 9 = .ok (.iload_n 1, 1) := by decide +kernel
theorem dJ9_max_7cf53_10 : decode cJ9_max_7cf53 10 = .ok (.ireturn, 1) := by decide +kernel
theorem dJ9_min_7cf53_0 : decode cJ9_min_7cf53 0 = .ok (.iload_n 0, 1) := by decide +kernel
theorem dJ9_min_7cf53_1 : decode cJ9_min_7cf53 1 = .ok (.iload_n 1, 1) := by decide +kernel
theorem dJ9_min_7cf53_2 : decode cJ9_min_7cf53 2 = .ok (.if_icmp .gt 7, 3) := by decide +kernel
theorem dJ9_min_7cf53_5 : decode cJ9_min_7cf53 5 = .ok (.iload_n 0, 1) := by decide +kernel
theorem dJ9_min_7cf53_6 : decode cJ9_min_7cf53 6 = .ok (.goto 4, 3) := by decide +kernel
theorem dJ9_min_7cf53_9 : decode cJ9_min_7cf53 9 = .ok (.iload_n 1, 1) := by decide +kernel
theorem dJ9_min_7cf53_10 : decode cJ9_min_7cf53 10 = .ok (.ireturn, 1) := by decide +kernel
theorem dJ7_fill_53178_0 : decode cJ7_fill_53178 0 = .ok (.iconst 0, 1) := by decide +kernel
theorem dJ7_fill_53178_1 : decode cJ7_fill_53178 1 = .ok (.istore_n 2, 1) := by decide +kernel
theorem dJ7_fill_53178_2 : decode cJ7_fill_53178 2 = .ok (.aload_n 0, 1) := by decide +kernel
theorem dJ7_fill_53178_3 : decode cJ7_fill_53178 3 = .ok (.arraylength, 1) := by decide +kernel
theorem dJ7_fill_53178_4 : decode cJ7_fill_53178 4 = .ok (.istore_n 3, 1) := by decide +kernel
theorem dJ7_fill_53178_5 : decode cJ7_fill_53178 5 = .ok (.iload_n 2, 1) := by decide +kernel
theorem dJ7_fill_53178_6 : decode cJ7_fill_53178 6 = .ok (.iload_n 3, 1) := by decide +kernel
theorem dJ7_fill_53178_7 : decode cJ7_fill_53178 7 = .ok (.if_icmp .ge 13, 3) := by decide +kernel
theorem dJ7_fill_53178_10 : decode cJ7_fill_53178 10 = .ok (.aload_n 0, 1) := by decide +kernel
theorem dJ7_fill_53178_11 : decode cJ7_fill_53178 11 = .ok (.iload_n 2, 1) := by decide +kernel
theorem dJ7_fill_53178_12 : decode cJ7_fill_53178 12 = .ok (.iload_n 1, 1) := by decide +kernel
theorem dJ7_fill_53178_13 : decode cJ7_fill_53178 13 = .ok (.iastore, 1) := by decide +kernel
theorem dJ7_fill_53178_14 : decode cJ7_fill_53178 14 = .ok (.iinc 2 1, 3) := by decide +kernel
theorem dJ7_fill_53178_17 : decode cJ7_fill_53178 17 = .ok (.goto (-12), 3) := by decide +kernel
theorem dJ7_fill_53178_20 : decode cJ7_fill_53178 20 = .ok (.return_, 1) := by decide +kernel
abbrev vwCl : List vw_C := [(RX0, TX0, 2), (RX1, TX1, 2), (RX2, TX2, 4), (RX3, TX3, 2), (RX4, TX4, 6), (RX5, TX5, 3), (RX6, TX6, 12), (RX7, TX7, 24)]
end
section
/-! KINDS OF CELLS. 1 the book, 3 FrameReader, 4 SentFrame, 5..8 Port 0..3, 10 Neighbors, 11 the model; 12, 15..17 the book's arrays, 18.. the model's; 31.. what is being made; 300+q Neighbor q (q < 12), 320+q Contents q (12 the reader's first, 13 what is told), 340+q its sizes, 360+q its bytes, 380+q Contents q half made -/
abbrev RPort : String := RX4
abbrev RNeighbor : String := RX2
def hk_b : List (Nat × Nat × Nat) := [(0, 0, 0), (1, 6, 12), (0, 0, 0), (1, 1, 2), (1, 5, 3), (1, 4, 6), (1, 4, 6), (1, 4, 6), (1, 4, 6), (0, 0, 0), (1, 3, 2), (1, 7, 24),
  (2, 1, 700), (0, 0, 0), (0, 0, 0), (2, 3, 4), (2, 4, 12), (2, 1, 439), (2, 1, 540), (2, 0, 9), (2, 2, 4), (2, 0, 4), (2, 0, 4), (2, 0, 4), (2, 0, 4), (2, 0, 4), (2, 0, 13), (2, 0, 13), (2, 0, 13), (2, 1, 7020),
  (2, 0, 117), (1, 0, 2), (0, 0, 0), (1, 1, 2), (1, 5, 3), (1, 5, 3), (1, 2, 4), (1, 3, 2), (2, 1, 700), (2, 1, 700)]
def hk_t (kd : Nat) : Nat × Nat × Nat := if kd < 40 then hk_b.getD kd (0, 0, 0) else if kd < 60 then (2, 4, 12) else if kd < 80 then (1, 3, 2) else if kd < 100 then (2, 3, 4) else if kd < 200 then (1, 6, 12) else if kd < 300 then (1, 7, 24) else if kd < 320 then (1, 2, 4) else if kd < 340 then (1, 0, 2) else if kd < 360 then (2, 0, 9) else if kd < 380 then (2, 1, 420) else (1, 0, 2)
def hk_P : List (Nat × Nat) := [(0, 0), (0, 0), (0, 0), (0, 0), (0, 0), (0, 0)]
def hk_B : List (Nat × Nat) := [(4, 12), (0, 0), (4, 333), (4, 15), (4, 10), (4, 3), (4, 4), (1, 0), (1, 0), (1, 0), (0, 0), (0, 0)]
def hk_Mo : List (Nat × Nat) := [(4, 38), (0, 0), (4, 18), (4, 19), (1, 0), (1, 0), (1, 0), (4, 20), (4, 21), (4, 22), (4, 23), (4, 24), (4, 25), (0, 0), (4, 26), (4, 27), (4, 28), (4, 29), (4, 30), (0, 0), (0, 0), (4, 39), (0, 0), (0, 0)]
def hk_R : List (Nat × Nat) := [(4, 300), (4, 301), (4, 302), (4, 303), (4, 304), (4, 305), (4, 306), (4, 307), (4, 308), (4, 309), (4, 310), (4, 311)]
/-- a kind's slots, and what all slots behind them hold: (0) the exact number, (1) any int, (2, h) 0..h, (3, h) -1..h, (4, kd) a cell of kind kd, (5) a byte, (7) anything -/
def hk_l : List (List (Nat × Nat) × (Nat × Nat)) := [([], (7, 0)), (hk_B, (7, 0)), ([], (7, 0)), ([(4, 332), (2, 0)], (7, 0)), ([(4, 17), (0, 0), (0, 0)], (7, 0)), (hk_P, (7, 0)), (hk_P, (7, 0)), (hk_P, (7, 0)), (hk_P, (7, 0)),
  ([], (7, 0)), ([(4, 16), (0, 0)], (7, 0)), (hk_Mo, (7, 0)),
  ([], (5, 0)), ([], (7, 0)), ([], (7, 0)), ([(4, 5), (4, 6), (4, 7), (4, 8)], (7, 0)), (hk_R, (7, 0)), ([], (5, 0)), ([], (5, 0)), ([], (3, 60)), ([], (0, 0)), ([], (0, 0)), ([], (0, 0)), ([], (0, 0)), ([], (0, 0)), ([], (0, 0)), ([], (2, 3)), ([], (2, 0)), ([], (1, 0)), ([], (5, 0)),
  ([], (3, 60)), ([], (7, 0)), ([], (7, 0)), ([(7, 0), (2, 0)], (7, 0)), ([(7, 0), (2, 0), (1, 0)], (7, 0)), ([(4, 17), (2, 0), (1, 0)], (7, 0)), ([(7, 0), (2, 0), (1, 0), (1, 0)], (7, 0)), ([(7, 0), (2, 0)], (7, 0)), ([], (5, 0)), ([], (5, 0))]
/-- the n-th making of the book's fields: the refs in the order in which they are set -/
def hk_Bs (n i : Nat) : List (Nat × Nat) := [if 1 ≤ n then (4, 12) else (7, 0), (2, 0), if 2 ≤ n then (4, 333) else (7, 0), if 3 ≤ n then (4, 80 + i) else (7, 0), if 4 ≤ n then (4, 10) else (7, 0), if 5 ≤ n then (4, 3) else (7, 0), if 6 ≤ n then (4, 4) else (7, 0), (1, 0), (1, 0), (1, 0), (2, 0), (2, 0)]
def hk_Ms (n : Nat) : List (Nat × Nat) := [if 1 ≤ n then (4, 38) else (7, 0), (2, 0), if 2 ≤ n then (4, 18) else (7, 0), if 3 ≤ n then (4, 19) else (7, 0), (1, 0), (1, 0), (1, 0), if 4 ≤ n then (4, 20) else (7, 0), if 5 ≤ n then (4, 21) else (7, 0), if 6 ≤ n then (4, 22) else (7, 0), if 7 ≤ n then (4, 23) else (7, 0), if 8 ≤ n then (4, 24) else (7, 0), if 9 ≤ n then (4, 25) else (7, 0), (2, 0), if 10 ≤ n then (4, 26) else (7, 0), if 11 ≤ n then (4, 27) else (7, 0), if 12 ≤ n then (4, 28) else (7, 0), if 13 ≤ n then (4, 29) else (7, 0), if 14 ≤ n then (4, 30) else (7, 0), (2, 0), (2, 0), if 15 ≤ n then (4, 39) else (7, 0), (2, 0), (1, 0)]
def hk_f (kd k : Nat) : Nat × Nat :=
  if kd < 320 then ([(4, kd + 20), (2, 0), (1, 0), (1, 0)] : List (Nat × Nat)).getD k (7, 0)
  else if kd < 340 then ([(4, kd + 20), (4, kd + 40)] : List (Nat × Nat)).getD k (7, 0)
  else if kd < 360 then (if k = 0 ∨ k = 3 then (3, 0) else (3, 60))
  else if kd < 380 then (5, 0)
  else ([(4, kd - 40), (7, 0)] : List (Nat × Nat)).getD k (7, 0)
def hk_s (kd k : Nat) : Nat × Nat :=
  if kd < 40 then (hk_l.getD kd ([], (7, 0))).1.getD k (hk_l.getD kd ([], (7, 0))).2
  else if kd < 60 then (if k < kd - 40 then (4, 300 + k) else (7, 0))
  else if kd < 80 then ([(4, kd - 20), (2, 0)] : List (Nat × Nat)).getD k (7, 0)
  else if kd < 100 then (if k < kd - 80 then (4, 5 + k) else (7, 0))
  else if kd < 110 then (hk_Bs (kd - 100) 0).getD k (7, 0)
  else if kd < 200 then (hk_Bs 6 (kd - 110)).getD k (7, 0)
  else if kd < 300 then (hk_Ms (kd - 200)).getD k (7, 0)
  else hk_f kd k
/-- kinds of which there is one cell alone -/
def hk_x (kd : Nat) : Bool := if kd < 40 then [1, 3, 4, 5, 6, 7, 8, 10, 11, 12, 16, 20, 21, 22, 23, 24, 25, 26, 27, 28, 29, 30, 38].contains kd else decide ((300 ≤ kd ∧ kd < 320) ∨ (340 ≤ kd ∧ kd < 380))
theorem hk_t5 {q : Nat} (h : q < 4) : hk_t (5 + q) = (1, 4, 6) := by
  match q, h with
  | 0, _ => rfl
  | 1, _ => rfl
  | 2, _ => rfl
  | 3, _ => rfl
theorem hk_s5 {q k : Nat} (h : q < 4) (hk : k < 6) : hk_s (5 + q) k = (0, 0) := by
  match q, h with
  | 0, _ => match k, hk with | 0, _ => rfl | 1, _ => rfl | 2, _ => rfl | 3, _ => rfl | 4, _ => rfl | 5, _ => rfl
  | 1, _ => match k, hk with | 0, _ => rfl | 1, _ => rfl | 2, _ => rfl | 3, _ => rfl | 4, _ => rfl | 5, _ => rfl
  | 2, _ => match k, hk with | 0, _ => rfl | 1, _ => rfl | 2, _ => rfl | 3, _ => rfl | 4, _ => rfl | 5, _ => rfl
  | 3, _ => match k, hk with | 0, _ => rfl | 1, _ => rfl | 2, _ => rfl | 3, _ => rfl | 4, _ => rfl | 5, _ => rfl
theorem hk_x5 {q : Nat} (h : q < 4) : hk_x (5 + q) = true := by
  match q, h with
  | 0, _ => rfl
  | 1, _ => rfl
  | 2, _ => rfl
  | 3, _ => rfl
theorem hk_s15 {q : Nat} (h : q < 4) : hk_s 15 q = (4, 5 + q) := by
  match q, h with
  | 0, _ => rfl
  | 1, _ => rfl
  | 2, _ => rfl
  | 3, _ => rfl
theorem hk_t300 {q : Nat} (h : q < 20) : hk_t (300 + q) = (1, 2, 4) := by
  unfold hk_t
  rw [if_neg (by omega), if_neg (by omega), if_neg (by omega), if_neg (by omega), if_neg (by omega), if_neg (by omega), if_pos (by omega)]
theorem hk_t320 {q : Nat} (h : q < 20) : hk_t (320 + q) = (1, 0, 2) := by
  unfold hk_t
  rw [if_neg (by omega), if_neg (by omega), if_neg (by omega), if_neg (by omega), if_neg (by omega), if_neg (by omega), if_neg (by omega), if_pos (by omega)]
theorem hk_t340 {q : Nat} (h : q < 20) : hk_t (340 + q) = (2, 0, 9) := by
  unfold hk_t
  rw [if_neg (by omega), if_neg (by omega), if_neg (by omega), if_neg (by omega), if_neg (by omega), if_neg (by omega), if_neg (by omega), if_neg (by omega), if_pos (by omega)]
theorem hk_t360 {q : Nat} (h : q < 20) : hk_t (360 + q) = (2, 1, 420) := by
  unfold hk_t
  rw [if_neg (by omega), if_neg (by omega), if_neg (by omega), if_neg (by omega), if_neg (by omega), if_neg (by omega), if_neg (by omega), if_neg (by omega), if_neg (by omega), if_pos (by omega)]
theorem hk_t380 {q : Nat} : hk_t (380 + q) = (1, 0, 2) := by
  unfold hk_t
  rw [if_neg (by omega), if_neg (by omega), if_neg (by omega), if_neg (by omega), if_neg (by omega), if_neg (by omega), if_neg (by omega), if_neg (by omega), if_neg (by omega), if_neg (by omega)]
theorem hk_sF {kd k : Nat} (h : 300 ≤ kd) : hk_s kd k = hk_f kd k := by
  unfold hk_s
  rw [if_neg (by omega), if_neg (by omega), if_neg (by omega), if_neg (by omega), if_neg (by omega), if_neg (by omega), if_neg (by omega)]
theorem hk_s300 {q : Nat} (h : q < 20) (k : Nat) : hk_s (300 + q) k = ([(4, 320 + q), (2, 0), (1, 0), (1, 0)] : List (Nat × Nat)).getD k (7, 0) := by
  rw [hk_sF (by omega)]
  unfold hk_f
  rw [if_pos (by omega), show 300 + q + 20 = 320 + q by omega]
theorem hk_s320 {q : Nat} (h : q < 20) (k : Nat) : hk_s (320 + q) k = ([(4, 340 + q), (4, 360 + q)] : List (Nat × Nat)).getD k (7, 0) := by
  rw [hk_sF (by omega)]
  unfold hk_f
  rw [if_neg (by omega), if_pos (by omega), show 320 + q + 20 = 340 + q by omega, show 320 + q + 40 = 360 + q by omega]
theorem hk_s340 {q : Nat} (h : q < 20) (k : Nat) : hk_s (340 + q) k = if k = 0 ∨ k = 3 then (3, 0) else (3, 60) := by
  rw [hk_sF (by omega)]
  unfold hk_f
  rw [if_neg (by omega), if_neg (by omega), if_pos (by omega)]
theorem hk_s360 {q : Nat} (h : q < 20) (k : Nat) : hk_s (360 + q) k = (5, 0) := by
  rw [hk_sF (by omega)]
  unfold hk_f
  rw [if_neg (by omega), if_neg (by omega), if_neg (by omega), if_pos (by omega)]
theorem hk_s380 {q : Nat} (k : Nat) : hk_s (380 + q) k = ([(4, 340 + q), (7, 0)] : List (Nat × Nat)).getD k (7, 0) := by
  rw [hk_sF (by omega)]
  unfold hk_f
  rw [if_neg (by omega), if_neg (by omega), if_neg (by omega), if_neg (by omega), show 380 + q - 40 = 340 + q by omega]
theorem hk_x300 {q : Nat} (h : q < 20) : hk_x (300 + q) = true := by
  unfold hk_x
  rw [if_neg (by omega)]
  exact decide_eq_true (by omega)
theorem hk_x340 {q : Nat} (h : q < 40) : hk_x (340 + q) = true := by
  unfold hk_x
  rw [if_neg (by omega)]
  exact decide_eq_true (by omega)
theorem hk_x360 {q : Nat} (h : q < 20) : hk_x (360 + q) = true := by
  unfold hk_x
  rw [if_neg (by omega)]
  exact decide_eq_true (by omega)
theorem hk_x380 {q : Nat} : hk_x (380 + q) = false := by
  unfold hk_x
  rw [if_neg (by omega)]
  exact decide_eq_false (by omega)
theorem hk_x320 {q : Nat} (h : q < 20) : hk_x (320 + q) = false := by
  unfold hk_x
  rw [if_neg (by omega)]
  exact decide_eq_false (by omega)
/-- the links of private methods of nest mates: (own, index, method, host) -/
def hp_nl : List (String × Nat × MethodName × String) := [(RX3, 17, yX2_init, RX6), (RX6, 35, yX1_init, RX6), (RX6, 42, yX5_init, RX6), (RX6, 57, yX4_init, RX6), (RX0, 22, yX6_isMore, RX6), (RX1, 44, yX6_isMore, RX6)]
def hp_N (U : State) : Prop := ∀ q ∈ hp_nl, va_Nw (.methodLinkNest q.1 q.2.1 q.2.2.1 q.2.2.2) U
theorem hp_N.same {u U : State} (h : u.vm = U.vm) (hN : hp_N u) : hp_N U := fun q hq => va_Nw.same rfl h (hN q hq)
theorem hp_N.warm {s U : State} (hw : s.WarmedH U.vm) (hN : hp_N s) : hp_N U := fun q hq => va_Nw.warmM hw (hN q hq)
end
section
/-! THE HEAP AS A MEMORY: F a k is the value of slot k of the cell at a; κ a is the kind of the cell at a (0: none of ours); g kd k is the number that an exact slot of a kind holds. -/
abbrev hp_F : Type := Nat → Nat → Value
abbrev hp_A (B : Nat) : Nat → Prop := fun q => B ≤ q
def hs_i (e : Int) (sp : Nat × Nat) (x : Int) : Prop := match sp.1 with
  | 0 => x = e
  | 1 => True
  | 2 => 0 ≤ x ∧ x ≤ (sp.2 : Int)
  | 3 => -1 ≤ x ∧ x ≤ (sp.2 : Int)
  | 5 => -128 ≤ x ∧ x ≤ 127
  | _ => False
def hs_ok (κ : Nat → Nat) (e : Int) (sp : Nat × Nat) (v : Value) : Prop := match sp.1 with
  | 4 => ∃ b : Nat, v = .ref b ∧ κ b = sp.2
  | 7 => True
  | _ => ∃ x : Int32, v = .int x ∧ hs_i e sp x.toInt
def hs_n (sp : Nat × Nat) : Bool := match sp.1 with
  | 4 => false
  | 7 => false
  | _ => true
theorem hs_ok_i {κ : Nat → Nat} {e : Int} {sp : Nat × Nat} {v : Value} (hn : hs_n sp = true) (h : hs_ok κ e sp v) : ∃ x : Int32, v = .int x ∧ hs_i e sp x.toInt := by
  obtain ⟨a, b⟩ := sp
  match a, hn, h with
  | 0, _, h => exact h
  | 1, _, h => exact h
  | 2, _, h => exact h
  | 3, _, h => exact h
  | 5, _, h => exact h
  | 6, _, h => exact h
  | n + 8, _, h => exact h
theorem hs_i_ok {κ : Nat → Nat} {e : Int} {sp : Nat × Nat} {x : Int32} (hn : hs_n sp = true) (h : hs_i e sp x.toInt) : hs_ok κ e sp (.int x) := by
  obtain ⟨a, b⟩ := sp
  match a, hn, h with
  | 0, _, h => exact ⟨x, rfl, h⟩
  | 1, _, h => exact ⟨x, rfl, h⟩
  | 2, _, h => exact ⟨x, rfl, h⟩
  | 3, _, h => exact ⟨x, rfl, h⟩
  | 5, _, h => exact ⟨x, rfl, h⟩
  | 6, _, h => exact ⟨x, rfl, h⟩
  | n + 8, _, h => exact ⟨x, rfl, h⟩
def hp_at (dC : Nat → ClassId) (dI : Nat → Nat → Nat) (dA : Nat → ClassId) (q : Nat × Nat × Nat) (V : Nat → Value) (a : Nat) (H : Heap) : Prop := match q.1 with
  | 0 => True
  | 1 => t_OB a (dC q.2.1) q.2.2 (dI q.2.1) H V
  | _ => H[a]? = some (arrV (dA q.2.1) q.2.2 V)
theorem hp_at.kept {dC : Nat → ClassId} {dI : Nat → Nat → Nat} {dA : Nat → ClassId} {q : Nat × Nat × Nat} {V : Nat → Value} {a : Nat} {H H1 : Heap} (h : hp_at dC dI dA q V a H) (hq : H1[a]? = H[a]?) : hp_at dC dI dA q V a H1 := by
  obtain ⟨x, y, z⟩ := q
  match x, h with
  | 0, _ => exact trivial
  | 1, h => exact t_OB.kept h hq
  | n + 2, h => exact hq.trans h
def hp_M (dC : Nat → ClassId) (dI : Nat → Nat → Nat) (dA : Nat → ClassId) (κ : Nat → Nat) (F : hp_F) (H : Heap) : Prop := ∀ a : Nat, hp_at dC dI dA (hk_t (κ a)) (F a) a H
def hp_O (κ : Nat → Nat) (g : Nat → Nat → Int) (F : hp_F) : Prop := ∀ a k : Nat, k < (hk_t (κ a)).2.2 → hs_ok κ (g (κ a) k) (hk_s (κ a) k) (F a k)
def hp_W (κ : Nat → Nat) (B : Nat) : Prop := (∀ a : Nat, κ a ≠ 0 → B ≤ a) ∧ ∀ a b : Nat, hk_x (κ a) = true → κ a = κ b → a = b
def hp_u (F : hp_F) (a k : Nat) (v : Value) : hp_F := fun b => if b = a then updV (F b) k v else F b
def hp_ug (g : Nat → Nat → Int) (kd k : Nat) (x : Int) : Nat → Nat → Int := fun a b => if a = kd ∧ b = k then x else g a b
theorem hp_ug_s (g : Nat → Nat → Int) (kd k : Nat) (x : Int) : hp_ug g kd k x kd k = x := if_pos ⟨rfl, rfl⟩
theorem hp_ug_n {g : Nat → Nat → Int} {kd k a b : Nat} {x : Int} (h : ¬ (a = kd ∧ b = k)) : hp_ug g kd k x a b = g a b := if_neg h
theorem hp_set {dC : Nat → ClassId} {dI : Nat → Nat → Nat} {dA : Nat → ClassId} {κ : Nat → Nat} {F : hp_F} {H H1 : Heap} {a k : Nat} {v : Value} (hM : hp_M dC dI dA κ F H) (hat : hp_at dC dI dA (hk_t (κ a)) (updV (F a) k v) a H1) (oq : ∀ q : Nat, q ≠ a → H1[q]? = H[q]?) : hp_M dC dI dA κ (hp_u F a k v) H1 := by
  intro b
  by_cases hb : b = a
  · subst hb
    unfold hp_u
    rw [if_pos rfl]
    exact hat
  · unfold hp_u
    rw [if_neg hb]
    exact (hM b).kept (oq b hb)
theorem hp_setO {κ : Nat → Nat} {g : Nat → Nat → Int} {F : hp_F} {a k : Nat} {v : Value} (hO : hp_O κ g F) (hv : hs_ok κ (g (κ a) k) (hk_s (κ a) k) v) : hp_O κ g (hp_u F a k v) := by
  intro b j hj
  by_cases hb : b = a
  · subst hb
    unfold hp_u
    rw [if_pos rfl]
    by_cases hk : j = k
    · subst hk
      unfold updV
      rw [if_pos rfl]
      exact hv
    · unfold updV
      rw [if_neg hk]
      exact hO b j hj
  · unfold hp_u
    rw [if_neg hb]
    exact hO b j hj
theorem hp_setX {κ : Nat → Nat} {g : Nat → Nat → Int} {F : hp_F} {B a k kd : Nat} {v : Value} {x : Int} (hO : hp_O κ g F) (hW : hp_W κ B) (hκ : κ a = kd) (hx : hk_x kd = true) (hv : hs_ok κ x (hk_s kd k) v) : hp_O κ (hp_ug g kd k x) (hp_u F a k v) := by
  intro b j hj
  by_cases hb : b = a
  · subst hb
    unfold hp_u
    rw [if_pos rfl]
    by_cases hk : j = k
    · subst hk
      unfold updV
      rw [if_pos rfl, hκ, hp_ug_s]
      exact hv
    · unfold updV
      rw [if_neg hk, hp_ug_n (fun q => hk q.2)]
      exact hO b j hj
  · have hne : ¬ κ b = kd := fun q => hb (hW.2 b a (by rw [q]; exact hx) (by rw [q, hκ]))
    unfold hp_u
    rw [if_neg hb, hp_ug_n (fun q => hne q.1)]
    exact hO b j hj
/-- the world between two instructions: the memory holds in the heap H, and nothing below B was written since H0 -/
def hp_J (dC : Nat → ClassId) (dI : Nat → Nat → Nat) (dA : Nat → ClassId) (κ : Nat → Nat) (B : Nat) (g : Nat → Nat → Int) (H0 H : Heap) (locs : List Loc) : Prop := (∃ F : hp_F, hp_M dC dI dA κ F H ∧ hp_O κ g F) ∧ va_S (hp_A B) H0 H locs
def hp_ty (dA : Nat → ClassId) : List (ClassId × FieldType) := [(dA 0, .int), (dA 1, .byte), (dA 2, .boolean), (dA 3, .object RPort), (dA 4, .object RNeighbor)]
/-- a state with the world κ, g behind B -/
def hp_S (dC : Nat → ClassId) (dI : Nat → Nat → Nat) (dA : Nat → ClassId) (κ : Nat → Nat) (B : Nat) (g : Nat → Nat → Int) (U : State) : Prop := va_K (dC, dI) vwCl (hp_ty dA) U ∧ hp_N U ∧ hp_W κ B ∧ ∃ F : hp_F, hp_M dC dI dA κ F U.heap ∧ hp_O κ g F
theorem hp_S.moved {dC : Nat → ClassId} {dI : Nat → Nat → Nat} {dA : Nat → ClassId} {κ : Nat → Nat} {B : Nat} {g : Nat → Nat → Int} {u U : State} (hh : U.heap = u.heap) (hvm : u.vm.Alike U.vm) (hN : hp_N U) (h : hp_S dC dI dA κ B g u) : hp_S dC dI dA κ B g U := by
  obtain ⟨h1, -, h2, h3⟩ := h
  refine ⟨va_K.moved hvm h1, hN, h2, ?_⟩
  rw [hh]
  exact h3
theorem hi_lt {x y : Int32} : (x < y) ↔ x.toInt < y.toInt := Int32.lt_iff_toInt_lt
theorem hi_le {x y : Int32} : (x ≤ y) ↔ x.toInt ≤ y.toInt := Int32.le_iff_toInt_le
theorem hi_eq {x y : Int32} : (x = y) ↔ x.toInt = y.toInt := Int32.toInt_inj.symm
theorem hi_cl {x : Int32} (h : 0 ≤ x.toInt) : ((x.toNatClampNeg : Nat) : Int) = x.toInt := by
  show ((x.toInt.toNat : Nat) : Int) = x.toInt
  omega
theorem hi_0 : (0 : Int32).toInt = 0 := rfl
theorem hi_in {i : Int32} {n : Nat} (h0 : 0 ≤ i.toInt) (h1 : i.toInt < n) : vp_in i n := vp_in_iff.mpr ⟨h0, h1⟩
theorem hi_lo (x : Int32) : -2147483648 ≤ x.toInt := Int32.le_toInt x
theorem hi_hi (x : Int32) : x.toInt ≤ 2147483647 := by
  have := Int32.toInt_lt x
  omega
theorem hi_bm {z : Int} (h1 : -2147483648 ≤ z) (h2 : z ≤ 2147483647) : z.bmod (2 ^ 32) = z := by
  rw [Int.bmod_def]; omega
theorem hi_add {x y : Int32} (h1 : -2147483648 ≤ x.toInt + y.toInt) (h2 : x.toInt + y.toInt ≤ 2147483647) : (x + y).toInt = x.toInt + y.toInt := by rw [Int32.toInt_add, hi_bm h1 h2]
theorem hi_sub {x y : Int32} (h1 : -2147483648 ≤ x.toInt - y.toInt) (h2 : x.toInt - y.toInt ≤ 2147483647) : (x - y).toInt = x.toInt - y.toInt := by rw [Int32.toInt_sub, hi_bm h1 h2]
theorem hi_mul {x y : Int32} {z : Int} (hz : x.toInt * y.toInt = z) (h1 : -2147483648 ≤ z) (h2 : z ≤ 2147483647) : (x * y).toInt = z := by rw [Int32.toInt_mul, hz, hi_bm h1 h2]
theorem hi_ofInt {n : Int} (h1 : -2147483648 ≤ n) (h2 : n ≤ 2147483647) : (Int32.ofInt n).toInt = n := Int32.toInt_ofInt_of_le (by omega) (by omega)
theorem hp_S.of {dC : Nat → ClassId} {dI : Nat → Nat → Nat} {dA : Nat → ClassId} {κ : Nat → Nat} {B : Nat} {g : Nat → Nat → Int} {H0 H : Heap} {locs : List Loc} {s t : State} (hK : va_K (dC, dI) vwCl (hp_ty dA) s) (hN : hp_N s) (hW : hp_W κ B) (hJ : hp_J dC dI dA κ B g H0 H locs) (ht : t.heap = H) (hw : s.WarmedH t.vm) : hp_S dC dI dA κ B g t := by
  refine ⟨va_K.moved hw.alike hK, hp_N.warm hw hN, hW, ?_⟩
  rw [ht]
  exact hJ.1
abbrev hp_Pre (dC : Nat → ClassId) (dI : Nat → Nat → Nat) (dA : Nat → ClassId) (κ : Nat → Nat) (B : Nat) (g : Nat → Nat → Int) (av : List Value) : Array Value → State → Prop := va_Pc av (hp_S dC dI dA κ B g)
abbrev hp_Qi (dC : Nat → ClassId) (dI : Nat → Nat → Nat) (dA : Nat → ClassId) (κ : Nat → Nat) (B : Nat) (post : Int32 → (Nat → Nat → Int) → Prop) : Array Value → State → Outcome → State → Prop := va_Qi post (fun u t => hp_S dC dI dA κ B u t) (hp_A B)
abbrev hp_Qv (dC : Nat → ClassId) (dI : Nat → Nat → Nat) (dA : Nat → ClassId) (κ : Nat → Nat) (B : Nat) (post : (Nat → Nat → Int) → Prop) : Array Value → State → Outcome → State → Prop := va_Qv post (fun u t => hp_S dC dI dA κ B u t) (hp_A B)
abbrev hp_Qr (dC : Nat → ClassId) (dI : Nat → Nat → Nat) (dA : Nat → ClassId) (κ : Nat → Nat) (B : Nat) (kd : Nat) (post : (Nat → Nat → Int) → Prop) : Array Value → State → Outcome → State → Prop := va_Qr post (fun u a t => hp_S dC dI dA κ B u t ∧ κ a = kd) (hp_A B)
theorem hp_blind {dC : Nat → ClassId} {dI : Nat → Nat → Nat} {dA : Nat → ClassId} {κ : Nat → Nat} {B : Nat} {g : Nat → Nat → Int} {av : List Value} : FrameBlind (hp_Pre dC dI dA κ B g av) := by
  intro a U f mk h
  obtain ⟨h0, h1, h2, h3, h4⟩ := h
  exact ⟨h0, va_K.moved (u := U) (U := U.calling f mk a) (Vm.Alike.refl U.vm) h1, hp_N.same rfl h2, h3, h4⟩
theorem hp_preS {dC : Nat → ClassId} {dI : Nat → Nat → Nat} {dA : Nat → ClassId} {κ : Nat → Nat} {B : Nat} {g : Nat → Nat → Int} {H0 H : Heap} {locs : List Loc} {s : State} (As : List Value) (hK : va_K (dC, dI) vwCl (hp_ty dA) s) (hN : hp_N s) (hW : hp_W κ B) (hJ : hp_J dC dI dA κ B g H0 H locs) : PreS s H (hp_Pre dC dI dA κ B g As) As :=
  ⟨hp_blind, fun _ hU hw => ⟨rfl, hp_S.of hK hN hW hJ hU hw⟩⟩
theorem hp_preV {dC : Nat → ClassId} {dI : Nat → Nat → Nat} {dA : Nat → ClassId} {κ : Nat → Nat} {B : Nat} {g : Nat → Nat → Int} {H0 H : Heap} {locs : List Loc} {s : State} {b kd ci N : Nat} {q : vw_C} (As : List Value) (hK : va_K (dC, dI) vwCl (hp_ty dA) s) (hN : hp_N s) (hW : hp_W κ B) (hJ : hp_J dC dI dA κ B g H0 H locs) (hκ : κ b = kd) (ht : hk_t kd = (1, ci, N)) (hc : vwCl[ci]? = some q) : PreV s H q.1 b (hp_Pre dC dI dA κ B g (.ref b :: As)) As := by
  refine ⟨hp_blind, ?_, fun _ hU hw => ⟨rfl, hp_S.of hK hN hW hJ hU hw⟩⟩
  obtain ⟨⟨F, hM, -⟩, -⟩ := hJ
  have h := hM b
  rw [hκ, ht] at h
  obtain ⟨cell, h1, h2, h3, -⟩ := (show t_OB b (dC ci) N (dI ci) H (F b) from h)
  exact ⟨cell, h1, by rw [h3]; rfl, by rw [h2]; exact (hK.1 ci q hc).2.1⟩
theorem hi_and {x y : Int32} {k : Nat} {n : Int} (hy : y.toInt = n) (hn : n = 2 ^ k - 1) (hk : k ≤ 30) : 0 ≤ (x &&& y).toInt ∧ (x &&& y).toInt ≤ n := by
  have h30 : (2 : Int) ^ k ≤ 2 ^ 30 := by exact_mod_cast Nat.pow_le_pow_right (by decide : 0 < 2) hk
  have h1 : (1 : Int) ≤ 2 ^ k := by exact_mod_cast Nat.one_le_two_pow
  have h6 : (2 : Nat) ^ k ≤ 2 ^ 30 := Nat.pow_le_pow_right (by decide) hk
  have h4 : ((2 ^ k - 1 : Nat) : Int) = 2 ^ k - 1 := by
    rw [Int.natCast_sub Nat.one_le_two_pow]; simp
  have hb : y.toBitVec.toNat = 2 ^ k - 1 := by
    have hy2 : y = nI (2 ^ k - 1) := hi_eq.mpr (by rw [hy, hn, nI_toInt (by omega), h4])
    rw [hy2, pk_tn (by omega)]
  have h := pk_and x k hb
  rw [h]
  have hlt : x.toBitVec.toNat % 2 ^ k < 2 ^ k := Nat.mod_lt _ (Nat.two_pow_pos k)
  have h5 : ((2 ^ k : Nat) : Int) = 2 ^ k := by simp
  rw [nI_toInt (by omega)]
  omega
theorem hs13_n (c : Prop) [Decidable c] : hs_n (if c then (3, 0) else (3, 60)) = true := by split <;> rfl
theorem hs13_i {e : Int} {q : Nat} {x : Int} (h : hs_i e (if q = 0 ∨ q = 3 then (3, 0) else (3, 60)) x) : -1 ≤ x ∧ x ≤ 60 ∧ (0 < x → q ≠ 0 ∧ q ≠ 3) := by
  split at h
  · have h : -1 ≤ x ∧ x ≤ ((0 : Nat) : Int) := h
    omega
  · have h : -1 ≤ x ∧ x ≤ ((60 : Nat) : Int) := h
    omega
theorem hs13_o {e : Int} {q : Nat} {x : Int} (h : -1 ≤ x ∧ x ≤ 60) (h2 : 0 < x → q ≠ 0 ∧ q ≠ 3) : hs_i e (if q = 0 ∨ q = 3 then (3, 0) else (3, 60)) x := by
  split
  · show -1 ≤ x ∧ x ≤ ((0 : Nat) : Int)
    omega
  · show -1 ≤ x ∧ x ≤ ((60 : Nat) : Int)
    omega
theorem hi_bool {v : Int32} (h : v.toInt = 0 ∨ v.toInt = 1) : narrow .boolean (.int v) = .int v := by
  rcases h with h | h
  · rw [show v = 0 from hi_eq.mpr h]; rfl
  · rw [show v = 1 from hi_eq.mpr h]; rfl
section HPW
variable {p : Program} {l : Launch} {e : Env} {R : Room} {s : State} {m : MethodId} {args : Array Value} {below : List Frame} {meth : Method} {c : Code} {H : Heap} {locs : List Loc} {cells slots : Nat} {Q : State → Prop}
variable {cc : ByteArray} {pc : Nat} {ls : Array Slot} {rest st0 : List Value}
variable {dC : Nat → ClassId} {dI : Nat → Nat → Nat} {dA : Nat → ClassId} {κ : Nat → Nat} {B : Nat} {g : Nat → Nat → Int} {H0 : Heap} {a : Nat}
-- numbers
theorem hq_iconst (hx : p.tables.exec = Jvm.exec) (hb : c.code = cc) {n : Int} (hdg : decode cc pc = .ok (.iconst n, 1)) (h1 : -2147483648 ≤ n) (h2 : n ≤ 2147483647)
    (kk : ∀ z : Int32, z.toInt = n → W p l e R s m args below meth c H locs cells slots Q (F0 m (pc + 1) ls (.int z :: rest))) : W p l e R s m args below meth c H locs cells slots Q (F0 m (pc) ls (rest)) := lv_iconst hx hb hdg rfl (kk _ (hi_ofInt h1 h2))
theorem hq_bipush (hx : p.tables.exec = Jvm.exec) (hb : c.code = cc) {n : Int} (hdg : decode cc pc = .ok (.bipush n, 2)) (h1 : (Int8.ofInt n).toInt32.toInt = n)
    (kk : ∀ z : Int32, z.toInt = n → W p l e R s m args below meth c H locs cells slots Q (F0 m (pc + 2) ls (.int z :: rest))) : W p l e R s m args below meth c H locs cells slots Q (F0 m (pc) ls (rest)) := lv_bipush hx hb hdg rfl (kk _ h1)
theorem hq_sipush (hx : p.tables.exec = Jvm.exec) (hb : c.code = cc) {n : Int} (hdg : decode cc pc = .ok (.sipush n, 3)) (h1 : (Int16.ofInt n).toInt32.toInt = n)
    (kk : ∀ z : Int32, z.toInt = n → W p l e R s m args below meth c H locs cells slots Q (F0 m (pc + 3) ls (.int z :: rest))) : W p l e R s m args below meth c H locs cells slots Q (F0 m (pc) ls (rest)) := lv_sipush hx hb hdg rfl (kk _ h1)
theorem hq_iadd (hx : p.tables.exec = Jvm.exec) (hb : c.code = cc) {x y : Int32} (hdg : decode cc pc = .ok (.iadd, 1)) (h1 : -2147483648 ≤ x.toInt + y.toInt) (h2 : x.toInt + y.toInt ≤ 2147483647)
    (kk : ∀ z : Int32, z.toInt = x.toInt + y.toInt → W p l e R s m args below meth c H locs cells slots Q (F0 m (pc + 1) ls (.int z :: rest))) : W p l e R s m args below meth c H locs cells slots Q (F0 m (pc) ls (.int y :: .int x :: rest)) := lv_iadd hx hb hdg (kk _ (hi_add h1 h2))
theorem hq_isub (hx : p.tables.exec = Jvm.exec) (hb : c.code = cc) {x y : Int32} (hdg : decode cc pc = .ok (.isub, 1)) (h1 : -2147483648 ≤ x.toInt - y.toInt) (h2 : x.toInt - y.toInt ≤ 2147483647)
    (kk : ∀ z : Int32, z.toInt = x.toInt - y.toInt → W p l e R s m args below meth c H locs cells slots Q (F0 m (pc + 1) ls (.int z :: rest))) : W p l e R s m args below meth c H locs cells slots Q (F0 m (pc) ls (.int y :: .int x :: rest)) := lv_isub hx hb hdg (kk _ (hi_sub h1 h2))
theorem hq_imul (hx : p.tables.exec = Jvm.exec) (hb : c.code = cc) {x y : Int32} (hdg : decode cc pc = .ok (.imul, 1)) {w : Int} (hw : x.toInt * y.toInt = w) (h1 : -2147483648 ≤ w) (h2 : w ≤ 2147483647)
    (kk : ∀ z : Int32, z.toInt = w → W p l e R s m args below meth c H locs cells slots Q (F0 m (pc + 1) ls (.int z :: rest))) : W p l e R s m args below meth c H locs cells slots Q (F0 m (pc) ls (.int y :: .int x :: rest)) := lv_imul hx hb hdg (kk _ (hi_mul hw h1 h2))
theorem hq_iaddU (hx : p.tables.exec = Jvm.exec) (hb : c.code = cc) {x y : Int32} (hdg : decode cc pc = .ok (.iadd, 1))
    (kk : ∀ z : Int32, W p l e R s m args below meth c H locs cells slots Q (F0 m (pc + 1) ls (.int z :: rest))) : W p l e R s m args below meth c H locs cells slots Q (F0 m (pc) ls (.int y :: .int x :: rest)) := lv_iadd hx hb hdg (kk _)
theorem hq_isubU (hx : p.tables.exec = Jvm.exec) (hb : c.code = cc) {x y : Int32} (hdg : decode cc pc = .ok (.isub, 1))
    (kk : ∀ z : Int32, W p l e R s m args below meth c H locs cells slots Q (F0 m (pc + 1) ls (.int z :: rest))) : W p l e R s m args below meth c H locs cells slots Q (F0 m (pc) ls (.int y :: .int x :: rest)) := lv_isub hx hb hdg (kk _)
theorem hq_imulU (hx : p.tables.exec = Jvm.exec) (hb : c.code = cc) {x y : Int32} (hdg : decode cc pc = .ok (.imul, 1))
    (kk : ∀ z : Int32, W p l e R s m args below meth c H locs cells slots Q (F0 m (pc + 1) ls (.int z :: rest))) : W p l e R s m args below meth c H locs cells slots Q (F0 m (pc) ls (.int y :: .int x :: rest)) := lv_imul hx hb hdg (kk _)
theorem hq_iandU (hx : p.tables.exec = Jvm.exec) (hb : c.code = cc) {x y : Int32} (hdg : decode cc pc = .ok (.iand, 1))
    (kk : ∀ z : Int32, W p l e R s m args below meth c H locs cells slots Q (F0 m (pc + 1) ls (.int z :: rest))) : W p l e R s m args below meth c H locs cells slots Q (F0 m (pc) ls (.int y :: .int x :: rest)) := lv_iand hx hb hdg (kk _)
theorem hq_iorU (hx : p.tables.exec = Jvm.exec) (hb : c.code = cc) {x y : Int32} (hdg : decode cc pc = .ok (.ior, 1))
    (kk : ∀ z : Int32, W p l e R s m args below meth c H locs cells slots Q (F0 m (pc + 1) ls (.int z :: rest))) : W p l e R s m args below meth c H locs cells slots Q (F0 m (pc) ls (.int y :: .int x :: rest)) := lv_ior hx hb hdg (kk _)
theorem hq_ixorU (hx : p.tables.exec = Jvm.exec) (hb : c.code = cc) {x y : Int32} (hdg : decode cc pc = .ok (.ixor, 1))
    (kk : ∀ z : Int32, W p l e R s m args below meth c H locs cells slots Q (F0 m (pc + 1) ls (.int z :: rest))) : W p l e R s m args below meth c H locs cells slots Q (F0 m (pc) ls (.int y :: .int x :: rest)) := lv_ixor hx hb hdg (kk _)
theorem hq_ishlU (hx : p.tables.exec = Jvm.exec) (hb : c.code = cc) {x y : Int32} (hdg : decode cc pc = .ok (.ishl, 1))
    (kk : ∀ z : Int32, W p l e R s m args below meth c H locs cells slots Q (F0 m (pc + 1) ls (.int z :: rest))) : W p l e R s m args below meth c H locs cells slots Q (F0 m (pc) ls (.int y :: .int x :: rest)) := lv_ishl hx hb hdg (kk _)
theorem hq_ishrU (hx : p.tables.exec = Jvm.exec) (hb : c.code = cc) {x y : Int32} (hdg : decode cc pc = .ok (.ishr, 1))
    (kk : ∀ z : Int32, W p l e R s m args below meth c H locs cells slots Q (F0 m (pc + 1) ls (.int z :: rest))) : W p l e R s m args below meth c H locs cells slots Q (F0 m (pc) ls (.int y :: .int x :: rest)) := lv_ishr hx hb hdg (kk _)
theorem hq_i2b (hx : p.tables.exec = Jvm.exec) (hb : c.code = cc) {x : Int32} (hdg : decode cc pc = .ok (.i2b, 1))
    (kk : ∀ z : Int32, W p l e R s m args below meth c H locs cells slots Q (F0 m (pc + 1) ls (.int z :: rest))) : W p l e R s m args below meth c H locs cells slots Q (F0 m (pc) ls (.int x :: rest)) := lv_i2b hx hb hdg rfl (kk _)
theorem hq_iinc (hx : p.tables.exec = Jvm.exec) (hb : c.code = cc) {i nL k : Nat} {n : Int} {x : Int32} {lv : List (Nat × Value)} {lv' : Int32 → List (Nat × Value)} (hdg : decode cc pc = .ok (.iinc i n, 3)) (h : lv_has ls nL lv) (hk : lv[k]? = some (i, .int x)) (h1 : -2147483648 ≤ n) (h2 : n ≤ 2147483647) (h3 : -2147483648 ≤ x.toInt + n) (h4 : x.toInt + n ≤ 2147483647) (hn : i < nL) (hl : ∀ v : Int32, (i, Value.int v) :: lv.filter (fun q => !(q.1 == i) && !(q.1 + 1 == i && q.2.category == 2)) = lv' v)
    (kk : ∀ (z : Int32) (ls' : Array Slot), z.toInt = x.toInt + n → lv_has ls' nL (lv' z) → W p l e R s m args below meth c H locs cells slots Q (F0 m (pc + 3) ls' (rest))) : W p l e R s m args below meth c H locs cells slots Q (F0 m (pc) ls (rest)) := lv_iinc hx hb hdg h hk rfl hn (hl _) (fun ls' h' => kk _ ls' (by rw [hi_add (by rw [hi_ofInt h1 h2]; exact h3) (by rw [hi_ofInt h1 h2]; exact h4), hi_ofInt h1 h2]) h')
theorem hq_iincU (hx : p.tables.exec = Jvm.exec) (hb : c.code = cc) {i nL k : Nat} {n : Int} {x : Int32} {lv : List (Nat × Value)} {lv' : Int32 → List (Nat × Value)} (hdg : decode cc pc = .ok (.iinc i n, 3)) (h : lv_has ls nL lv) (hk : lv[k]? = some (i, .int x)) (hn : i < nL) (hl : ∀ v : Int32, (i, Value.int v) :: lv.filter (fun q => !(q.1 == i) && !(q.1 + 1 == i && q.2.category == 2)) = lv' v)
    (kk : ∀ (z : Int32) (ls' : Array Slot), lv_has ls' nL (lv' z) → W p l e R s m args below meth c H locs cells slots Q (F0 m (pc + 3) ls' (rest))) : W p l e R s m args below meth c H locs cells slots Q (F0 m (pc) ls (rest)) := lv_iinc hx hb hdg h hk rfl hn (hl _) (fun ls' h' => kk _ ls' h')
-- branches
theorem hq_icmp_eq (hx : p.tables.exec = Jvm.exec) (hb : c.code = cc) {x y : Int32} {off : Int} {tgt : Nat} (hdg : decode cc pc = .ok (.if_icmp .eq off, 3)) (ht : (pc : Int) + off = (tgt : Int))
    (kt : x.toInt = y.toInt → W p l e R s m args below meth c H locs cells slots Q (F0 m (tgt) ls (rest))) (kf : ¬ x.toInt = y.toInt → W p l e R s m args below meth c H locs cells slots Q (F0 m (pc + 3) ls (rest))) : W p l e R s m args below meth c H locs cells slots Q (F0 m (pc) ls (.int y :: .int x :: rest)) := lv_icmp_eq hx hb hdg ht (fun h => kt (hi_eq.mp h)) (fun h => kf (fun q => h (hi_eq.mpr q)))
theorem hq_if_eq (hx : p.tables.exec = Jvm.exec) (hb : c.code = cc) {x : Int32} {off : Int} {tgt : Nat} (hdg : decode cc pc = .ok (.ifCond .eq off, 3)) (ht : (pc : Int) + off = (tgt : Int))
    (kt : x.toInt = 0 → W p l e R s m args below meth c H locs cells slots Q (F0 m (tgt) ls (rest))) (kf : ¬ x.toInt = 0 → W p l e R s m args below meth c H locs cells slots Q (F0 m (pc + 3) ls (rest))) : W p l e R s m args below meth c H locs cells slots Q (F0 m (pc) ls (.int x :: rest)) := lv_if_eq hx hb hdg ht (fun h => kt (hi_eq.mp h)) (fun h => kf (fun q => h (hi_eq.mpr q)))
theorem hq_icmp_ne (hx : p.tables.exec = Jvm.exec) (hb : c.code = cc) {x y : Int32} {off : Int} {tgt : Nat} (hdg : decode cc pc = .ok (.if_icmp .ne off, 3)) (ht : (pc : Int) + off = (tgt : Int))
    (kt : ¬ x.toInt = y.toInt → W p l e R s m args below meth c H locs cells slots Q (F0 m (tgt) ls (rest))) (kf : x.toInt = y.toInt → W p l e R s m args below meth c H locs cells slots Q (F0 m (pc + 3) ls (rest))) : W p l e R s m args below meth c H locs cells slots Q (F0 m (pc) ls (.int y :: .int x :: rest)) := lv_icmp_ne hx hb hdg ht (fun h => kt (fun q => h (hi_eq.mpr q))) (fun h => kf (hi_eq.mp h))
theorem hq_if_ne (hx : p.tables.exec = Jvm.exec) (hb : c.code = cc) {x : Int32} {off : Int} {tgt : Nat} (hdg : decode cc pc = .ok (.ifCond .ne off, 3)) (ht : (pc : Int) + off = (tgt : Int))
    (kt : ¬ x.toInt = 0 → W p l e R s m args below meth c H locs cells slots Q (F0 m (tgt) ls (rest))) (kf : x.toInt = 0 → W p l e R s m args below meth c H locs cells slots Q (F0 m (pc + 3) ls (rest))) : W p l e R s m args below meth c H locs cells slots Q (F0 m (pc) ls (.int x :: rest)) := lv_if_ne hx hb hdg ht (fun h => kt (fun q => h (hi_eq.mpr q))) (fun h => kf (hi_eq.mp h))
theorem hq_icmp_lt (hx : p.tables.exec = Jvm.exec) (hb : c.code = cc) {x y : Int32} {off : Int} {tgt : Nat} (hdg : decode cc pc = .ok (.if_icmp .lt off, 3)) (ht : (pc : Int) + off = (tgt : Int))
    (kt : x.toInt < y.toInt → W p l e R s m args below meth c H locs cells slots Q (F0 m (tgt) ls (rest))) (kf : y.toInt ≤ x.toInt → W p l e R s m args below meth c H locs cells slots Q (F0 m (pc + 3) ls (rest))) : W p l e R s m args below meth c H locs cells slots Q (F0 m (pc) ls (.int y :: .int x :: rest)) := lv_icmp_lt hx hb hdg ht (fun h => kt (hi_lt.mp h)) (fun h => kf (Int.not_lt.mp (fun q => h (hi_lt.mpr q))))
theorem hq_if_lt (hx : p.tables.exec = Jvm.exec) (hb : c.code = cc) {x : Int32} {off : Int} {tgt : Nat} (hdg : decode cc pc = .ok (.ifCond .lt off, 3)) (ht : (pc : Int) + off = (tgt : Int))
    (kt : x.toInt < 0 → W p l e R s m args below meth c H locs cells slots Q (F0 m (tgt) ls (rest))) (kf : 0 ≤ x.toInt → W p l e R s m args below meth c H locs cells slots Q (F0 m (pc + 3) ls (rest))) : W p l e R s m args below meth c H locs cells slots Q (F0 m (pc) ls (.int x :: rest)) := lv_if_lt hx hb hdg ht (fun h => kt (hi_lt.mp h)) (fun h => kf (Int.not_lt.mp (fun q => h (hi_lt.mpr q))))
theorem hq_icmp_ge (hx : p.tables.exec = Jvm.exec) (hb : c.code = cc) {x y : Int32} {off : Int} {tgt : Nat} (hdg : decode cc pc = .ok (.if_icmp .ge off, 3)) (ht : (pc : Int) + off = (tgt : Int))
    (kt : y.toInt ≤ x.toInt → W p l e R s m args below meth c H locs cells slots Q (F0 m (tgt) ls (rest))) (kf : x.toInt < y.toInt → W p l e R s m args below meth c H locs cells slots Q (F0 m (pc + 3) ls (rest))) : W p l e R s m args below meth c H locs cells slots Q (F0 m (pc) ls (.int y :: .int x :: rest)) := lv_icmp_ge hx hb hdg ht (fun h => kt (hi_le.mp h)) (fun h => kf (Int.not_le.mp (fun q => h (hi_le.mpr q))))
theorem hq_if_ge (hx : p.tables.exec = Jvm.exec) (hb : c.code = cc) {x : Int32} {off : Int} {tgt : Nat} (hdg : decode cc pc = .ok (.ifCond .ge off, 3)) (ht : (pc : Int) + off = (tgt : Int))
    (kt : 0 ≤ x.toInt → W p l e R s m args below meth c H locs cells slots Q (F0 m (tgt) ls (rest))) (kf : x.toInt < 0 → W p l e R s m args below meth c H locs cells slots Q (F0 m (pc + 3) ls (rest))) : W p l e R s m args below meth c H locs cells slots Q (F0 m (pc) ls (.int x :: rest)) := lv_if_ge hx hb hdg ht (fun h => kt (hi_le.mp h)) (fun h => kf (Int.not_le.mp (fun q => h (hi_le.mpr q))))
theorem hq_icmp_gt (hx : p.tables.exec = Jvm.exec) (hb : c.code = cc) {x y : Int32} {off : Int} {tgt : Nat} (hdg : decode cc pc = .ok (.if_icmp .gt off, 3)) (ht : (pc : Int) + off = (tgt : Int))
    (kt : y.toInt < x.toInt → W p l e R s m args below meth c H locs cells slots Q (F0 m (tgt) ls (rest))) (kf : x.toInt ≤ y.toInt → W p l e R s m args below meth c H locs cells slots Q (F0 m (pc + 3) ls (rest))) : W p l e R s m args below meth c H locs cells slots Q (F0 m (pc) ls (.int y :: .int x :: rest)) := lv_icmp_gt hx hb hdg ht (fun h => kt (hi_lt.mp h)) (fun h => kf (Int.not_lt.mp (fun q => h (hi_lt.mpr q))))
theorem hq_if_gt (hx : p.tables.exec = Jvm.exec) (hb : c.code = cc) {x : Int32} {off : Int} {tgt : Nat} (hdg : decode cc pc = .ok (.ifCond .gt off, 3)) (ht : (pc : Int) + off = (tgt : Int))
    (kt : 0 < x.toInt → W p l e R s m args below meth c H locs cells slots Q (F0 m (tgt) ls (rest))) (kf : x.toInt ≤ 0 → W p l e R s m args below meth c H locs cells slots Q (F0 m (pc + 3) ls (rest))) : W p l e R s m args below meth c H locs cells slots Q (F0 m (pc) ls (.int x :: rest)) := lv_if_gt hx hb hdg ht (fun h => kt (hi_lt.mp h)) (fun h => kf (Int.not_lt.mp (fun q => h (hi_lt.mpr q))))
theorem hq_icmp_le (hx : p.tables.exec = Jvm.exec) (hb : c.code = cc) {x y : Int32} {off : Int} {tgt : Nat} (hdg : decode cc pc = .ok (.if_icmp .le off, 3)) (ht : (pc : Int) + off = (tgt : Int))
    (kt : x.toInt ≤ y.toInt → W p l e R s m args below meth c H locs cells slots Q (F0 m (tgt) ls (rest))) (kf : y.toInt < x.toInt → W p l e R s m args below meth c H locs cells slots Q (F0 m (pc + 3) ls (rest))) : W p l e R s m args below meth c H locs cells slots Q (F0 m (pc) ls (.int y :: .int x :: rest)) := lv_icmp_le hx hb hdg ht (fun h => kt (hi_le.mp h)) (fun h => kf (Int.not_le.mp (fun q => h (hi_le.mpr q))))
theorem hq_if_le (hx : p.tables.exec = Jvm.exec) (hb : c.code = cc) {x : Int32} {off : Int} {tgt : Nat} (hdg : decode cc pc = .ok (.ifCond .le off, 3)) (ht : (pc : Int) + off = (tgt : Int))
    (kt : x.toInt ≤ 0 → W p l e R s m args below meth c H locs cells slots Q (F0 m (tgt) ls (rest))) (kf : 0 < x.toInt → W p l e R s m args below meth c H locs cells slots Q (F0 m (pc + 3) ls (rest))) : W p l e R s m args below meth c H locs cells slots Q (F0 m (pc) ls (.int x :: rest)) := lv_if_le hx hb hdg ht (fun h => kt (hi_le.mp h)) (fun h => kf (Int.not_le.mp (fun q => h (hi_le.mpr q))))
theorem hq_iandm (hx : p.tables.exec = Jvm.exec) (hb : c.code = cc) {x y : Int32} {k : Nat} {n : Int} (hdg : decode cc pc = .ok (.iand, 1)) (hy : y.toInt = n) (hn : n = 2 ^ k - 1 ∧ k ≤ 30)
    (kk : ∀ z : Int32, 0 ≤ z.toInt ∧ z.toInt ≤ n → W p l e R s m args below meth c H locs cells slots Q (F0 m (pc + 1) ls (.int z :: rest))) : W p l e R s m args below meth c H locs cells slots Q (F0 m (pc) ls (.int y :: .int x :: rest)) := lv_iand hx hb hdg (kk _ (hi_and hy hn.1 hn.2))
-- fields
theorem hp_getv (hx : p.tables.exec = Jvm.exec) (hb : c.code = cc) {own ref C : String} {T : u_T} {N ci index kd : Nat} {Ts : List Cond} (hts : ∀ w ∈ Ts, w.before args s = true) (hin : ∀ w ∈ u_ws C T N, w ∈ Ts) (hown : s.vm.findClass own = some m.cls) (hK : va_K (dC, dI) vwCl (hp_ty dA) s) (hJ : hp_J dC dI dA κ B g H0 H locs) (hκ : κ a = kd) (ht : hk_t kd = (1, ci, N)) (hc : vwCl[ci]? = some (C, T, N)) (k : Nat) (hk : k < N) (hlink : (Cond.fieldLink own index ref (T k).2.1 (T k).2.2.1).before args s = true) (hsame : ∀ x, s.fieldFound? (T k).1 (T k).2.1 (T k).2.2.1 = some x → s.fieldFound? ref (T k).2.1 (T k).2.2.1 = some x) (hdg : decode cc pc = .ok (.getfield index, 3))
    (kk : ∀ v : Value, hs_ok κ (g kd k) (hk_s kd k) v → W p l e R s m args below meth c H locs cells slots Q (F0 m (pc + 3) ls (v :: rest))) : W p l e R s m args below meth c H locs cells slots Q (F0 m (pc) ls (.ref a :: rest)) := by
  obtain ⟨⟨F, hM, hO⟩, -⟩ := hJ
  have h := hM a
  have ho := hO a k
  rw [hκ, ht] at h
  rw [hκ, ht] at ho
  obtain ⟨cell, q1, q2, q3, q4⟩ := (show t_OB a (dC ci) N (dI ci) H (F a) from h)
  obtain ⟨hS, hfc, kC, hkC, hkind⟩ := hK.1 ci _ hc
  obtain ⟨cf, kf, fi, f, hi, hsl⟩ := hS k hk
  refine W.getf hx hb hown hlink (hsame _ hi) (u_facts hfc hkC (u_lays hts hin hk) hi).1 q1 (by rw [q3]; exact fun h => by cases h) (v := F a k) ?_ rfl rfl hdg (kk _ (ho hk))
  rw [hsl, q4 k hk]
theorem hp_geti (hx : p.tables.exec = Jvm.exec) (hb : c.code = cc) {own ref C : String} {T : u_T} {N ci index kd : Nat} {Ts : List Cond} (hts : ∀ w ∈ Ts, w.before args s = true) (hin : ∀ w ∈ u_ws C T N, w ∈ Ts) (hown : s.vm.findClass own = some m.cls) (hK : va_K (dC, dI) vwCl (hp_ty dA) s) (hJ : hp_J dC dI dA κ B g H0 H locs) (hκ : κ a = kd) (ht : hk_t kd = (1, ci, N)) (hc : vwCl[ci]? = some (C, T, N)) (k : Nat) (hk : k < N) (hlink : (Cond.fieldLink own index ref (T k).2.1 (T k).2.2.1).before args s = true) (hsame : ∀ x, s.fieldFound? (T k).1 (T k).2.1 (T k).2.2.1 = some x → s.fieldFound? ref (T k).2.1 (T k).2.2.1 = some x) {sp : Nat × Nat} (hs : hk_s kd k = sp) (hn : hs_n sp = true) (hdg : decode cc pc = .ok (.getfield index, 3))
    (kk : ∀ x : Int32, hs_i (g kd k) sp x.toInt → W p l e R s m args below meth c H locs cells slots Q (F0 m (pc + 3) ls (.int x :: rest))) : W p l e R s m args below meth c H locs cells slots Q (F0 m (pc) ls (.ref a :: rest)) := by
  refine hp_getv hx hb hts hin hown hK hJ hκ ht hc k hk hlink hsame hdg (fun v hv => ?_)
  rw [hs] at hv
  obtain ⟨x, rfl, h⟩ := hs_ok_i hn hv
  exact kk x h
theorem hp_getr (hx : p.tables.exec = Jvm.exec) (hb : c.code = cc) {own ref C : String} {T : u_T} {N ci index kd : Nat} {Ts : List Cond} (hts : ∀ w ∈ Ts, w.before args s = true) (hin : ∀ w ∈ u_ws C T N, w ∈ Ts) (hown : s.vm.findClass own = some m.cls) (hK : va_K (dC, dI) vwCl (hp_ty dA) s) (hJ : hp_J dC dI dA κ B g H0 H locs) (hκ : κ a = kd) (ht : hk_t kd = (1, ci, N)) (hc : vwCl[ci]? = some (C, T, N)) (k : Nat) (hk : k < N) (hlink : (Cond.fieldLink own index ref (T k).2.1 (T k).2.2.1).before args s = true) (hsame : ∀ x, s.fieldFound? (T k).1 (T k).2.1 (T k).2.2.1 = some x → s.fieldFound? ref (T k).2.1 (T k).2.2.1 = some x) {k2 : Nat} (hs : hk_s kd k = (4, k2)) (hdg : decode cc pc = .ok (.getfield index, 3))
    (kk : ∀ b : Nat, κ b = k2 → W p l e R s m args below meth c H locs cells slots Q (F0 m (pc + 3) ls (.ref b :: rest))) : W p l e R s m args below meth c H locs cells slots Q (F0 m (pc) ls (.ref a :: rest)) := by
  refine hp_getv hx hb hts hin hown hK hJ hκ ht hc k hk hlink hsame hdg (fun v hv => ?_)
  rw [hs] at hv
  obtain ⟨b, rfl, h⟩ := (show ∃ b : Nat, v = .ref b ∧ κ b = k2 from hv)
  exact kk b h
theorem hp_putv (hx : p.tables.exec = Jvm.exec) (hb : c.code = cc) {own ref C : String} {T : u_T} {N ci index kd : Nat} {Ts : List Cond} (hts : ∀ w ∈ Ts, w.before args s = true) (hin : ∀ w ∈ u_ws C T N, w ∈ Ts) (hown : s.vm.findClass own = some m.cls) (hK : va_K (dC, dI) vwCl (hp_ty dA) s) (hJ : hp_J dC dI dA κ B g H0 H locs) (hκ : κ a = kd) (ht : hk_t kd = (1, ci, N)) (hc : vwCl[ci]? = some (C, T, N)) (k : Nat) (hk : k < N) (hlink : (Cond.fieldLink own index ref (T k).2.1 (T k).2.2.1).before args s = true) (hsame : ∀ x, s.fieldFound? (T k).1 (T k).2.1 (T k).2.2.1 = some x → s.fieldFound? ref (T k).2.1 (T k).2.2.1 = some x) (ty0 : Nat → FieldType) (hty : ∀ k, k < N → parseFieldDescriptor (T k).2.2.1 = some (ty0 k)) (hnm : ∀ a, a < N → ∀ b, b < N → a ≠ b → (T a).2.1 ≠ (T b).2.1) {v : Value} (hn : narrow (ty0 k) v = v) (hfit : fits (ty0 k) v = true) (h0 : kd ≠ 0) (hW : hp_W κ B) (hfin : (T k).2.2.2 = false) (hdg : decode cc pc = .ok (.putfield index, 3))
    (kk : ∀ (F : hp_F) (H1 : Heap) (locs1 : List Loc), hp_M dC dI dA κ (hp_u F a k v) H1 → hp_O κ g F → va_S (hp_A B) H0 H1 locs1 → W p l e R s m args below meth c H1 locs1 cells slots Q (F0 m (pc + 3) ls (rest))) : W p l e R s m args below meth c H locs cells slots Q (F0 m (pc) ls (v :: .ref a :: rest)) := by
  have hap := va_apart (own := own) (ci := ci) hts hin ty0 hty hnm hK hc
  obtain ⟨⟨F, hM, hO⟩, hS0⟩ := hJ
  have h := hM a
  rw [hκ, ht] at h
  obtain ⟨cell, q1, q2, q3, q4⟩ := (show t_OB a (dC ci) N (dI ci) H (F a) from h)
  obtain ⟨hS, hfc, kC, hkC, hkind⟩ := hK.1 ci _ hc
  obtain ⟨cf, kf, fi, f, hi, hsl⟩ := hS k hk
  have hlay := hts _ (hin _ (u_in_lay hk))
  unfold u_lay at hlay
  rw [if_neg (by rw [hfin]; decide)] at hlay
  have hst := (u_facts hfc hkC (u_lays hts hin hk) hi).1
  have h6 := u_store hfc hkC hkind hlay hi (hty k hk) hn hfit
  refine W.putK hx hb (f := f) ⟨hown, hlink, ⟨_, _, _, hsame _ hi⟩, hst⟩ (by rw [q2]; exact h6) q1 q3 (by rw [hsl]; exact k2_hasslot (q4 k hk)) rfl rfl hdg fun H' e1 e2 e3 => ?_
  rw [hsl] at e1 ⊢
  refine kk F H' _ (hp_set hM ?_ e3) hO (hS0.put e2 e3 (hW.1 a (by rw [hκ]; exact h0)))
  rw [hκ, ht]
  exact ⟨_, e1, q2, q3, t_set q4 hap hk v⟩
theorem hp_putF (hx : p.tables.exec = Jvm.exec) (hb : c.code = cc) {own ref C : String} {T : u_T} {N ci index kd : Nat} {Ts : List Cond} (hts : ∀ w ∈ Ts, w.before args s = true) (hin : ∀ w ∈ u_ws C T N, w ∈ Ts) (hown : s.vm.findClass own = some m.cls) (hK : va_K (dC, dI) vwCl (hp_ty dA) s) (hJ : hp_J dC dI dA κ B g H0 H locs) (hκ : κ a = kd) (ht : hk_t kd = (1, ci, N)) (hc : vwCl[ci]? = some (C, T, N)) (k : Nat) (hk : k < N) (hlink : (Cond.fieldLink own index ref (T k).2.1 (T k).2.2.1).before args s = true) (hsame : ∀ x, s.fieldFound? (T k).1 (T k).2.1 (T k).2.2.1 = some x → s.fieldFound? ref (T k).2.1 (T k).2.2.1 = some x) (ty0 : Nat → FieldType) (hty : ∀ k, k < N → parseFieldDescriptor (T k).2.2.1 = some (ty0 k)) (hnm : ∀ a, a < N → ∀ b, b < N → a ≠ b → (T a).2.1 ≠ (T b).2.1) {v : Value} (hn : narrow (ty0 k) v = v) (hfit : fits (ty0 k) v = true) (h0 : kd ≠ 0) (hW : hp_W κ B) (hfin : (T k).2.2.2 = true) (hin2 : meth.name = "<init>") (hdecl : (T k).1 = own) (hdg : decode cc pc = .ok (.putfield index, 3))
    (kk : ∀ (F : hp_F) (H1 : Heap) (locs1 : List Loc), hp_M dC dI dA κ (hp_u F a k v) H1 → hp_O κ g F → va_S (hp_A B) H0 H1 locs1 → W p l e R s m args below meth c H1 locs1 cells slots Q (F0 m (pc + 3) ls (rest))) : W p l e R s m args below meth c H locs cells slots Q (F0 m (pc) ls (v :: .ref a :: rest)) := by
  have hap := va_apart (own := own) (ci := ci) hts hin ty0 hty hnm hK hc
  obtain ⟨⟨F, hM, hO⟩, hS0⟩ := hJ
  have h := hM a
  rw [hκ, ht] at h
  obtain ⟨cell, q1, q2, q3, q4⟩ := (show t_OB a (dC ci) N (dI ci) H (F a) from h)
  obtain ⟨hS, hfc, kC, hkC, hkind⟩ := hK.1 ci _ hc
  obtain ⟨cf, kf, fi, f, hi, hsl⟩ := hS k hk
  have hlay := hts _ (hin _ (u_in_lay hk))
  unfold u_lay at hlay
  rw [if_pos hfin] at hlay
  have hst := (u_facts hfc hkC (u_lays hts hin hk) hi).1
  have hcf : m.cls = cf := by
    obtain ⟨_, _, c', _, _, _, -, -, hf', -, -, -, hown2, -⟩ := Cond.laysFinal_spec hlay
    have e1 : c' = cf := by have := hi.symm.trans hf'; simp at this; exact this.1.symm
    rw [hdecl] at hown2
    rw [← e1]; exact Option.some.inj (hown.symm.trans hown2)
  have h6 := u_fits hfc hkC hkind (Or.inr hlay) hi (hty k hk) hn hfit
  refine W.putFinK hx hb hown hlink (hsame _ hi) hst hcf hin2 (by rw [q2]; exact h6) q1 q3 (by rw [hsl]; exact k2_hasslot (q4 k hk)) rfl rfl hdg fun H' e1 e2 e3 => ?_
  rw [hsl] at e1 ⊢
  refine kk F H' _ (hp_set hM ?_ e3) hO (hS0.put e2 e3 (hW.1 a (by rw [hκ]; exact h0)))
  rw [hκ, ht]
  exact ⟨_, e1, q2, q3, t_set q4 hap hk v⟩
theorem hp_put (hx : p.tables.exec = Jvm.exec) (hb : c.code = cc) {own ref C : String} {T : u_T} {N ci index kd : Nat} {Ts : List Cond} (hts : ∀ w ∈ Ts, w.before args s = true) (hin : ∀ w ∈ u_ws C T N, w ∈ Ts) (hown : s.vm.findClass own = some m.cls) (hK : va_K (dC, dI) vwCl (hp_ty dA) s) (hJ : hp_J dC dI dA κ B g H0 H locs) (hκ : κ a = kd) (ht : hk_t kd = (1, ci, N)) (hc : vwCl[ci]? = some (C, T, N)) (k : Nat) (hk : k < N) (hlink : (Cond.fieldLink own index ref (T k).2.1 (T k).2.2.1).before args s = true) (hsame : ∀ x, s.fieldFound? (T k).1 (T k).2.1 (T k).2.2.1 = some x → s.fieldFound? ref (T k).2.1 (T k).2.2.1 = some x) (ty0 : Nat → FieldType) (hty : ∀ k, k < N → parseFieldDescriptor (T k).2.2.1 = some (ty0 k)) (hnm : ∀ a, a < N → ∀ b, b < N → a ≠ b → (T a).2.1 ≠ (T b).2.1) {v : Value} (hn : narrow (ty0 k) v = v) (hfit : fits (ty0 k) v = true) (h0 : kd ≠ 0) (hW : hp_W κ B) (hfin : (T k).2.2.2 = false) (hv : hs_ok κ (g kd k) (hk_s kd k) v) (hdg : decode cc pc = .ok (.putfield index, 3))
    (kk : ∀ (H1 : Heap) (locs1 : List Loc), hp_J dC dI dA κ B g H0 H1 locs1 → W p l e R s m args below meth c H1 locs1 cells slots Q (F0 m (pc + 3) ls (rest))) : W p l e R s m args below meth c H locs cells slots Q (F0 m (pc) ls (v :: .ref a :: rest)) := hp_putv hx hb hts hin hown hK hJ hκ ht hc k hk hlink hsame ty0 hty hnm hn hfit h0 hW hfin hdg (fun F H1 locs1 hM hO hS => kk H1 locs1 ⟨⟨_, hM, hp_setO hO (by rw [hκ]; exact hv)⟩, hS⟩)
theorem hp_putx (hx : p.tables.exec = Jvm.exec) (hb : c.code = cc) {own ref C : String} {T : u_T} {N ci index kd : Nat} {Ts : List Cond} (hts : ∀ w ∈ Ts, w.before args s = true) (hin : ∀ w ∈ u_ws C T N, w ∈ Ts) (hown : s.vm.findClass own = some m.cls) (hK : va_K (dC, dI) vwCl (hp_ty dA) s) (hJ : hp_J dC dI dA κ B g H0 H locs) (hκ : κ a = kd) (ht : hk_t kd = (1, ci, N)) (hc : vwCl[ci]? = some (C, T, N)) (k : Nat) (hk : k < N) (hlink : (Cond.fieldLink own index ref (T k).2.1 (T k).2.2.1).before args s = true) (hsame : ∀ x, s.fieldFound? (T k).1 (T k).2.1 (T k).2.2.1 = some x → s.fieldFound? ref (T k).2.1 (T k).2.2.1 = some x) (ty0 : Nat → FieldType) (hty : ∀ k, k < N → parseFieldDescriptor (T k).2.2.1 = some (ty0 k)) (hnm : ∀ a, a < N → ∀ b, b < N → a ≠ b → (T a).2.1 ≠ (T b).2.1) {x : Int32} (hn : narrow (ty0 k) (.int x) = .int x) (hfit : fits (ty0 k) (.int x) = true) (h0 : kd ≠ 0) (hW : hp_W κ B) (hfin : (T k).2.2.2 = false) (hxx : hk_x kd = true) (hs : hk_s kd k = (0, 0)) (hdg : decode cc pc = .ok (.putfield index, 3))
    (kk : ∀ (g1 : Nat → Nat → Int) (H1 : Heap) (locs1 : List Loc), g1 kd k = x.toInt → (∀ a b : Nat, ¬ (a = kd ∧ b = k) → g1 a b = g a b) → hp_J dC dI dA κ B g1 H0 H1 locs1 → W p l e R s m args below meth c H1 locs1 cells slots Q (F0 m (pc + 3) ls (rest))) : W p l e R s m args below meth c H locs cells slots Q (F0 m (pc) ls (.int x :: .ref a :: rest)) := hp_putv hx hb hts hin hown hK hJ hκ ht hc k hk hlink hsame ty0 hty hnm hn hfit h0 hW hfin hdg (fun F H1 locs1 hM hO hS => kk _ H1 locs1 (hp_ug_s _ _ _ _) (fun _ _ h => hp_ug_n h) ⟨⟨_, hM, hp_setX hO hW hκ hxx (by rw [hs]; exact ⟨x, rfl, rfl⟩)⟩, hS⟩)
-- arrays
theorem hp_ialv (hx : p.tables.exec = Jvm.exec) (hb : c.code = cc) {kd n : Nat} (hK : va_K (dC, dI) vwCl (hp_ty dA) s) (hJ : hp_J dC dI dA κ B g H0 H locs) (hκ : κ a = kd) (ht : hk_t kd = (2, 0, n)) {i : Int32} (h1 : 0 ≤ i.toInt) (h2 : i.toInt < (n : Int)) (hdg : decode cc pc = .ok (.iaload, 1))
    (kk : ∀ v : Value, hs_ok κ (g kd i.toInt.toNat) (hk_s kd i.toInt.toNat) v → W p l e R s m args below meth c H locs cells slots Q (F0 m (pc + 1) ls (v :: rest))) : W p l e R s m args below meth c H locs cells slots Q (F0 m (pc) ls (.int i :: .ref a :: rest)) := by
  obtain ⟨⟨F, hM, hO⟩, -⟩ := hJ
  have h := hM a
  have ho := hO a i.toInt.toNat
  rw [hκ, ht] at h
  rw [hκ, ht] at ho
  have hin := hi_in h1 h2
  have hlt : i.toNatClampNeg < n := Nat.not_le.mp fun q => hin (Or.inr q)
  exact W.iald (v := F a i.toInt.toNat) hx hb h ((hK.2 0 _ rfl).1 n (F a)) (fun q => by cases q) (by show ¬ (i < 0 ∨ (arrV _ _ _).slots.size ≤ _); rw [arrV_size]; exact hin) (arrV_read _ _ hlt) rfl rfl hdg (kk _ (ho hlt))
theorem hp_balv (hx : p.tables.exec = Jvm.exec) (hb : c.code = cc) {kd n : Nat} (hK : va_K (dC, dI) vwCl (hp_ty dA) s) (hJ : hp_J dC dI dA κ B g H0 H locs) (hκ : κ a = kd) (ht : hk_t kd = (2, 1, n)) {i : Int32} (h1 : 0 ≤ i.toInt) (h2 : i.toInt < (n : Int)) (hdg : decode cc pc = .ok (.baload, 1))
    (kk : ∀ v : Value, hs_ok κ (g kd i.toInt.toNat) (hk_s kd i.toInt.toNat) v → W p l e R s m args below meth c H locs cells slots Q (F0 m (pc + 1) ls (v :: rest))) : W p l e R s m args below meth c H locs cells slots Q (F0 m (pc) ls (.int i :: .ref a :: rest)) := by
  obtain ⟨⟨F, hM, hO⟩, -⟩ := hJ
  have h := hM a
  have ho := hO a i.toInt.toNat
  rw [hκ, ht] at h
  rw [hκ, ht] at ho
  have hin := hi_in h1 h2
  have hlt : i.toNatClampNeg < n := Nat.not_le.mp fun q => hin (Or.inr q)
  exact W.bald (v := F a i.toInt.toNat) hx hb h ((hK.2 1 _ rfl).1 n (F a)) (fun q => by cases q) (by show ¬ (i < 0 ∨ (arrV _ _ _).slots.size ≤ _); rw [arrV_size]; exact hin) (arrV_read _ _ hlt) rfl rfl hdg (kk _ (ho hlt))
theorem hp_zalv (hx : p.tables.exec = Jvm.exec) (hb : c.code = cc) {kd n : Nat} (hK : va_K (dC, dI) vwCl (hp_ty dA) s) (hJ : hp_J dC dI dA κ B g H0 H locs) (hκ : κ a = kd) (ht : hk_t kd = (2, 2, n)) {i : Int32} (h1 : 0 ≤ i.toInt) (h2 : i.toInt < (n : Int)) (hdg : decode cc pc = .ok (.baload, 1))
    (kk : ∀ v : Value, hs_ok κ (g kd i.toInt.toNat) (hk_s kd i.toInt.toNat) v → W p l e R s m args below meth c H locs cells slots Q (F0 m (pc + 1) ls (v :: rest))) : W p l e R s m args below meth c H locs cells slots Q (F0 m (pc) ls (.int i :: .ref a :: rest)) := by
  obtain ⟨⟨F, hM, hO⟩, -⟩ := hJ
  have h := hM a
  have ho := hO a i.toInt.toNat
  rw [hκ, ht] at h
  rw [hκ, ht] at ho
  have hin := hi_in h1 h2
  have hlt : i.toNatClampNeg < n := Nat.not_le.mp fun q => hin (Or.inr q)
  exact W.zald (v := F a i.toInt.toNat) hx hb h ((hK.2 2 _ rfl).1 n (F a)) (fun q => by cases q) (by show ¬ (i < 0 ∨ (arrV _ _ _).slots.size ≤ _); rw [arrV_size]; exact hin) (arrV_read _ _ hlt) rfl rfl hdg (kk _ (ho hlt))
theorem hp_aalv3 (hx : p.tables.exec = Jvm.exec) (hb : c.code = cc) {kd n : Nat} (hK : va_K (dC, dI) vwCl (hp_ty dA) s) (hJ : hp_J dC dI dA κ B g H0 H locs) (hκ : κ a = kd) (ht : hk_t kd = (2, 3, n)) {i : Int32} (h1 : 0 ≤ i.toInt) (h2 : i.toInt < (n : Int)) (hdg : decode cc pc = .ok (.aaload, 1))
    (kk : ∀ v : Value, hs_ok κ (g kd i.toInt.toNat) (hk_s kd i.toInt.toNat) v → W p l e R s m args below meth c H locs cells slots Q (F0 m (pc + 1) ls (v :: rest))) : W p l e R s m args below meth c H locs cells slots Q (F0 m (pc) ls (.int i :: .ref a :: rest)) := by
  obtain ⟨⟨F, hM, hO⟩, -⟩ := hJ
  have h := hM a
  have ho := hO a i.toInt.toNat
  rw [hκ, ht] at h
  rw [hκ, ht] at ho
  have hin := hi_in h1 h2
  have hlt : i.toNatClampNeg < n := Nat.not_le.mp fun q => hin (Or.inr q)
  exact W.aald (v := F a i.toInt.toNat) hx hb h ((hK.2 3 _ rfl).1 n (F a)) rfl (fun q => by cases q) (by show ¬ (i < 0 ∨ (arrV _ _ _).slots.size ≤ _); rw [arrV_size]; exact hin) (arrV_read _ _ hlt) rfl rfl hdg (kk _ (ho hlt))
theorem hp_aalv4 (hx : p.tables.exec = Jvm.exec) (hb : c.code = cc) {kd n : Nat} (hK : va_K (dC, dI) vwCl (hp_ty dA) s) (hJ : hp_J dC dI dA κ B g H0 H locs) (hκ : κ a = kd) (ht : hk_t kd = (2, 4, n)) {i : Int32} (h1 : 0 ≤ i.toInt) (h2 : i.toInt < (n : Int)) (hdg : decode cc pc = .ok (.aaload, 1))
    (kk : ∀ v : Value, hs_ok κ (g kd i.toInt.toNat) (hk_s kd i.toInt.toNat) v → W p l e R s m args below meth c H locs cells slots Q (F0 m (pc + 1) ls (v :: rest))) : W p l e R s m args below meth c H locs cells slots Q (F0 m (pc) ls (.int i :: .ref a :: rest)) := by
  obtain ⟨⟨F, hM, hO⟩, -⟩ := hJ
  have h := hM a
  have ho := hO a i.toInt.toNat
  rw [hκ, ht] at h
  rw [hκ, ht] at ho
  have hin := hi_in h1 h2
  have hlt : i.toNatClampNeg < n := Nat.not_le.mp fun q => hin (Or.inr q)
  exact W.aald (v := F a i.toInt.toNat) hx hb h ((hK.2 4 _ rfl).1 n (F a)) rfl (fun q => by cases q) (by show ¬ (i < 0 ∨ (arrV _ _ _).slots.size ≤ _); rw [arrV_size]; exact hin) (arrV_read _ _ hlt) rfl rfl hdg (kk _ (ho hlt))
theorem hp_iald (hx : p.tables.exec = Jvm.exec) (hb : c.code = cc) {kd n : Nat} (hK : va_K (dC, dI) vwCl (hp_ty dA) s) (hJ : hp_J dC dI dA κ B g H0 H locs) (hκ : κ a = kd) (ht : hk_t kd = (2, 0, n)) {i : Int32} (h1 : 0 ≤ i.toInt) (h2 : i.toInt < (n : Int)) {sp : Nat × Nat} (hs : hk_s kd i.toInt.toNat = sp) (hn : hs_n sp = true) (hdg : decode cc pc = .ok (.iaload, 1))
    (kk : ∀ x : Int32, hs_i (g kd i.toInt.toNat) sp x.toInt → W p l e R s m args below meth c H locs cells slots Q (F0 m (pc + 1) ls (.int x :: rest))) : W p l e R s m args below meth c H locs cells slots Q (F0 m (pc) ls (.int i :: .ref a :: rest)) := by
  refine hp_ialv hx hb hK hJ hκ ht h1 h2 hdg (fun v hv => ?_)
  rw [hs] at hv
  obtain ⟨x, rfl, h⟩ := hs_ok_i hn hv
  exact kk x h
theorem hp_bald (hx : p.tables.exec = Jvm.exec) (hb : c.code = cc) {kd n : Nat} (hK : va_K (dC, dI) vwCl (hp_ty dA) s) (hJ : hp_J dC dI dA κ B g H0 H locs) (hκ : κ a = kd) (ht : hk_t kd = (2, 1, n)) {i : Int32} (h1 : 0 ≤ i.toInt) (h2 : i.toInt < (n : Int)) {sp : Nat × Nat} (hs : hk_s kd i.toInt.toNat = sp) (hn : hs_n sp = true) (hdg : decode cc pc = .ok (.baload, 1))
    (kk : ∀ x : Int32, hs_i (g kd i.toInt.toNat) sp x.toInt → W p l e R s m args below meth c H locs cells slots Q (F0 m (pc + 1) ls (.int x :: rest))) : W p l e R s m args below meth c H locs cells slots Q (F0 m (pc) ls (.int i :: .ref a :: rest)) := by
  refine hp_balv hx hb hK hJ hκ ht h1 h2 hdg (fun v hv => ?_)
  rw [hs] at hv
  obtain ⟨x, rfl, h⟩ := hs_ok_i hn hv
  exact kk x h
theorem hp_zald (hx : p.tables.exec = Jvm.exec) (hb : c.code = cc) {kd n : Nat} (hK : va_K (dC, dI) vwCl (hp_ty dA) s) (hJ : hp_J dC dI dA κ B g H0 H locs) (hκ : κ a = kd) (ht : hk_t kd = (2, 2, n)) {i : Int32} (h1 : 0 ≤ i.toInt) (h2 : i.toInt < (n : Int)) {sp : Nat × Nat} (hs : hk_s kd i.toInt.toNat = sp) (hn : hs_n sp = true) (hdg : decode cc pc = .ok (.baload, 1))
    (kk : ∀ x : Int32, hs_i (g kd i.toInt.toNat) sp x.toInt → W p l e R s m args below meth c H locs cells slots Q (F0 m (pc + 1) ls (.int x :: rest))) : W p l e R s m args below meth c H locs cells slots Q (F0 m (pc) ls (.int i :: .ref a :: rest)) := by
  refine hp_zalv hx hb hK hJ hκ ht h1 h2 hdg (fun v hv => ?_)
  rw [hs] at hv
  obtain ⟨x, rfl, h⟩ := hs_ok_i hn hv
  exact kk x h
theorem hp_aald3 (hx : p.tables.exec = Jvm.exec) (hb : c.code = cc) {kd n : Nat} (hK : va_K (dC, dI) vwCl (hp_ty dA) s) (hJ : hp_J dC dI dA κ B g H0 H locs) (hκ : κ a = kd) (ht : hk_t kd = (2, 3, n)) {i : Int32} (h1 : 0 ≤ i.toInt) (h2 : i.toInt < (n : Int)) {k2 : Nat} (hs : hk_s kd i.toInt.toNat = (4, k2)) (hdg : decode cc pc = .ok (.aaload, 1))
    (kk : ∀ b : Nat, κ b = k2 → W p l e R s m args below meth c H locs cells slots Q (F0 m (pc + 1) ls (.ref b :: rest))) : W p l e R s m args below meth c H locs cells slots Q (F0 m (pc) ls (.int i :: .ref a :: rest)) := by
  refine hp_aalv3 hx hb hK hJ hκ ht h1 h2 hdg (fun v hv => ?_)
  rw [hs] at hv
  obtain ⟨b, rfl, h⟩ := (show ∃ b : Nat, v = .ref b ∧ κ b = k2 from hv)
  exact kk b h
theorem hp_aald4 (hx : p.tables.exec = Jvm.exec) (hb : c.code = cc) {kd n : Nat} (hK : va_K (dC, dI) vwCl (hp_ty dA) s) (hJ : hp_J dC dI dA κ B g H0 H locs) (hκ : κ a = kd) (ht : hk_t kd = (2, 4, n)) {i : Int32} (h1 : 0 ≤ i.toInt) (h2 : i.toInt < (n : Int)) {k2 : Nat} (hs : hk_s kd i.toInt.toNat = (4, k2)) (hdg : decode cc pc = .ok (.aaload, 1))
    (kk : ∀ b : Nat, κ b = k2 → W p l e R s m args below meth c H locs cells slots Q (F0 m (pc + 1) ls (.ref b :: rest))) : W p l e R s m args below meth c H locs cells slots Q (F0 m (pc) ls (.int i :: .ref a :: rest)) := by
  refine hp_aalv4 hx hb hK hJ hκ ht h1 h2 hdg (fun v hv => ?_)
  rw [hs] at hv
  obtain ⟨b, rfl, h⟩ := (show ∃ b : Nat, v = .ref b ∧ κ b = k2 from hv)
  exact kk b h
theorem hp_iasv (hx : p.tables.exec = Jvm.exec) (hb : c.code = cc) {kd n : Nat} (hK : va_K (dC, dI) vwCl (hp_ty dA) s) (hJ : hp_J dC dI dA κ B g H0 H locs) (hκ : κ a = kd) (ht : hk_t kd = (2, 0, n)) {i : Int32} (h1 : 0 ≤ i.toInt) (h2 : i.toInt < (n : Int)) {x : Int32} (h0 : kd ≠ 0) (hW : hp_W κ B) (hdg : decode cc pc = .ok (.iastore, 1))
    (kk : ∀ (F : hp_F) (H1 : Heap) (locs1 : List Loc), hp_M dC dI dA κ (hp_u F a i.toInt.toNat (.int x)) H1 → hp_O κ g F → va_S (hp_A B) H0 H1 locs1 → W p l e R s m args below meth c H1 locs1 cells slots Q (F0 m (pc + 1) ls (rest))) : W p l e R s m args below meth c H locs cells slots Q (F0 m (pc) ls (.int x :: .int i :: .ref a :: rest)) := by
  obtain ⟨⟨F, hM, hO⟩, hS0⟩ := hJ
  have h := hM a
  rw [hκ, ht] at h
  have hin := hi_in h1 h2
  refine W.iast hx hb h ((hK.2 0 _ rfl).1 n (F a)) (fun q => by cases q) (by show ¬ (i < 0 ∨ (arrV _ _ _).slots.size ≤ _); rw [arrV_size]; exact hin) rfl rfl hdg fun H' e1 e2 e3 => ?_
  refine kk F H' _ (hp_set hM ?_ e3) hO (hS0.put e2 e3 (hW.1 a (by rw [hκ]; exact h0)))
  rw [hκ, ht]
  exact e1.trans (congrArg some (arrV_store _ _ _ _ _))
theorem hp_basv (hx : p.tables.exec = Jvm.exec) (hb : c.code = cc) {kd n : Nat} (hK : va_K (dC, dI) vwCl (hp_ty dA) s) (hJ : hp_J dC dI dA κ B g H0 H locs) (hκ : κ a = kd) (ht : hk_t kd = (2, 1, n)) {i : Int32} (h1 : 0 ≤ i.toInt) (h2 : i.toInt < (n : Int)) {x : Int32} (h0 : kd ≠ 0) (hW : hp_W κ B) (hdg : decode cc pc = .ok (.bastore, 1))
    (kk : ∀ (F : hp_F) (H1 : Heap) (locs1 : List Loc), hp_M dC dI dA κ (hp_u F a i.toInt.toNat (narrow .byte (.int x))) H1 → hp_O κ g F → va_S (hp_A B) H0 H1 locs1 → W p l e R s m args below meth c H1 locs1 cells slots Q (F0 m (pc + 1) ls (rest))) : W p l e R s m args below meth c H locs cells slots Q (F0 m (pc) ls (.int x :: .int i :: .ref a :: rest)) := by
  obtain ⟨⟨F, hM, hO⟩, hS0⟩ := hJ
  have h := hM a
  rw [hκ, ht] at h
  have hin := hi_in h1 h2
  refine W.bast hx hb h ((hK.2 1 _ rfl).1 n (F a)) (fun q => by cases q) (by show ¬ (i < 0 ∨ (arrV _ _ _).slots.size ≤ _); rw [arrV_size]; exact hin) rfl rfl hdg fun H' e1 e2 e3 => ?_
  refine kk F H' _ (hp_set hM ?_ e3) hO (hS0.put e2 e3 (hW.1 a (by rw [hκ]; exact h0)))
  rw [hκ, ht]
  exact e1.trans (congrArg some (arrV_store _ _ _ _ _))
theorem hp_zasv (hx : p.tables.exec = Jvm.exec) (hb : c.code = cc) {kd n : Nat} (hK : va_K (dC, dI) vwCl (hp_ty dA) s) (hJ : hp_J dC dI dA κ B g H0 H locs) (hκ : κ a = kd) (ht : hk_t kd = (2, 2, n)) {i : Int32} (h1 : 0 ≤ i.toInt) (h2 : i.toInt < (n : Int)) {x : Int32} (h0 : kd ≠ 0) (hW : hp_W κ B) (hdg : decode cc pc = .ok (.bastore, 1))
    (kk : ∀ (F : hp_F) (H1 : Heap) (locs1 : List Loc), hp_M dC dI dA κ (hp_u F a i.toInt.toNat (narrow .boolean (.int x))) H1 → hp_O κ g F → va_S (hp_A B) H0 H1 locs1 → W p l e R s m args below meth c H1 locs1 cells slots Q (F0 m (pc + 1) ls (rest))) : W p l e R s m args below meth c H locs cells slots Q (F0 m (pc) ls (.int x :: .int i :: .ref a :: rest)) := by
  obtain ⟨⟨F, hM, hO⟩, hS0⟩ := hJ
  have h := hM a
  rw [hκ, ht] at h
  have hin := hi_in h1 h2
  refine W.zast hx hb h ((hK.2 2 _ rfl).1 n (F a)) (fun q => by cases q) (by show ¬ (i < 0 ∨ (arrV _ _ _).slots.size ≤ _); rw [arrV_size]; exact hin) rfl rfl hdg fun H' e1 e2 e3 => ?_
  refine kk F H' _ (hp_set hM ?_ e3) hO (hS0.put e2 e3 (hW.1 a (by rw [hκ]; exact h0)))
  rw [hκ, ht]
  exact e1.trans (congrArg some (arrV_store _ _ _ _ _))
theorem hp_iast (hx : p.tables.exec = Jvm.exec) (hb : c.code = cc) {kd n : Nat} (hK : va_K (dC, dI) vwCl (hp_ty dA) s) (hJ : hp_J dC dI dA κ B g H0 H locs) (hκ : κ a = kd) (ht : hk_t kd = (2, 0, n)) {i : Int32} (h1 : 0 ≤ i.toInt) (h2 : i.toInt < (n : Int)) {x : Int32} (h0 : kd ≠ 0) (hW : hp_W κ B) {sp : Nat × Nat} (hs : hk_s kd i.toInt.toNat = sp) (hn : hs_n sp = true) (hv : hs_i (g kd i.toInt.toNat) sp x.toInt) (hdg : decode cc pc = .ok (.iastore, 1))
    (kk : ∀ (H1 : Heap) (locs1 : List Loc), hp_J dC dI dA κ B g H0 H1 locs1 → W p l e R s m args below meth c H1 locs1 cells slots Q (F0 m (pc + 1) ls (rest))) : W p l e R s m args below meth c H locs cells slots Q (F0 m (pc) ls (.int x :: .int i :: .ref a :: rest)) := hp_iasv hx hb hK hJ hκ ht h1 h2 h0 hW hdg (fun F H1 locs1 hM hO hS => kk H1 locs1 ⟨⟨_, hM, hp_setO hO (by rw [hκ, hs]; exact hs_i_ok hn hv)⟩, hS⟩)
theorem hp_bast (hx : p.tables.exec = Jvm.exec) (hb : c.code = cc) {kd n : Nat} (hK : va_K (dC, dI) vwCl (hp_ty dA) s) (hJ : hp_J dC dI dA κ B g H0 H locs) (hκ : κ a = kd) (ht : hk_t kd = (2, 1, n)) {i : Int32} (h1 : 0 ≤ i.toInt) (h2 : i.toInt < (n : Int)) {x : Int32} (h0 : kd ≠ 0) (hW : hp_W κ B) (hs : hk_s kd i.toInt.toNat = (5, 0)) (hdg : decode cc pc = .ok (.bastore, 1))
    (kk : ∀ (H1 : Heap) (locs1 : List Loc), hp_J dC dI dA κ B g H0 H1 locs1 → W p l e R s m args below meth c H1 locs1 cells slots Q (F0 m (pc + 1) ls (rest))) : W p l e R s m args below meth c H locs cells slots Q (F0 m (pc) ls (.int x :: .int i :: .ref a :: rest)) := hp_basv hx hb hK hJ hκ ht h1 h2 h0 hW hdg (fun F H1 locs1 hM hO hS => kk H1 locs1 ⟨⟨_, hM, hp_setO hO (by rw [hκ, hs]; exact ⟨x.toInt8.toInt32, rfl, (lg_i2b_range x).1, Int.le_of_lt_add_one (lg_i2b_range x).2⟩)⟩, hS⟩)
theorem hp_zastx (hx : p.tables.exec = Jvm.exec) (hb : c.code = cc) {kd n : Nat} (hK : va_K (dC, dI) vwCl (hp_ty dA) s) (hJ : hp_J dC dI dA κ B g H0 H locs) (hκ : κ a = kd) (ht : hk_t kd = (2, 2, n)) {i : Int32} (h1 : 0 ≤ i.toInt) (h2 : i.toInt < (n : Int)) {x : Int32} (h0 : kd ≠ 0) (hW : hp_W κ B) (hxx : hk_x kd = true) (hb1 : narrow .boolean (.int x) = .int x) (hs : hk_s kd i.toInt.toNat = (0, 0)) (hdg : decode cc pc = .ok (.bastore, 1))
    (kk : ∀ (g1 : Nat → Nat → Int) (H1 : Heap) (locs1 : List Loc), g1 kd i.toInt.toNat = x.toInt → (∀ a b : Nat, ¬ (a = kd ∧ b = i.toInt.toNat) → g1 a b = g a b) → hp_J dC dI dA κ B g1 H0 H1 locs1 → W p l e R s m args below meth c H1 locs1 cells slots Q (F0 m (pc + 1) ls (rest))) : W p l e R s m args below meth c H locs cells slots Q (F0 m (pc) ls (.int x :: .int i :: .ref a :: rest)) := hp_zasv hx hb hK hJ hκ ht h1 h2 h0 hW hdg (fun F H1 locs1 hM hO hS => kk _ H1 locs1 (hp_ug_s _ _ _ _) (fun _ _ h => hp_ug_n h) ⟨⟨_, hM, hp_setX hO hW hκ hxx (by rw [hs, hb1]; exact ⟨x, rfl, rfl⟩)⟩, hS⟩)
theorem hp_iastx (hx : p.tables.exec = Jvm.exec) (hb : c.code = cc) {kd n : Nat} (hK : va_K (dC, dI) vwCl (hp_ty dA) s) (hJ : hp_J dC dI dA κ B g H0 H locs) (hκ : κ a = kd) (ht : hk_t kd = (2, 0, n)) {i : Int32} (h1 : 0 ≤ i.toInt) (h2 : i.toInt < (n : Int)) {x : Int32} (h0 : kd ≠ 0) (hW : hp_W κ B) (hxx : hk_x kd = true) (hs : hk_s kd i.toInt.toNat = (0, 0)) (hdg : decode cc pc = .ok (.iastore, 1))
    (kk : ∀ (g1 : Nat → Nat → Int) (H1 : Heap) (locs1 : List Loc), g1 kd i.toInt.toNat = x.toInt → (∀ a b : Nat, ¬ (a = kd ∧ b = i.toInt.toNat) → g1 a b = g a b) → hp_J dC dI dA κ B g1 H0 H1 locs1 → W p l e R s m args below meth c H1 locs1 cells slots Q (F0 m (pc + 1) ls (rest))) : W p l e R s m args below meth c H locs cells slots Q (F0 m (pc) ls (.int x :: .int i :: .ref a :: rest)) := hp_iasv hx hb hK hJ hκ ht h1 h2 h0 hW hdg (fun F H1 locs1 hM hO hS => kk _ H1 locs1 (hp_ug_s _ _ _ _) (fun _ _ h => hp_ug_n h) ⟨⟨_, hM, hp_setX hO hW hκ hxx (by rw [hs]; exact ⟨x, rfl, rfl⟩)⟩, hS⟩)
theorem hp_aast3 (hx : p.tables.exec = Jvm.exec) (hb : c.code = cc) {kd n : Nat} (hK : va_K (dC, dI) vwCl (hp_ty dA) s) (hJ : hp_J dC dI dA κ B g H0 H locs) (hκ : κ a = kd) (ht : hk_t kd = (2, 3, n)) {i : Int32} (h1 : 0 ≤ i.toInt) (h2 : i.toInt < (n : Int)) {b k2 ci N : Nat} {q : vw_C} (h0 : kd ≠ 0) (hW : hp_W κ B) (hs : hk_s kd i.toInt.toNat = (4, k2)) (hκb : κ b = k2) (htb : hk_t k2 = (1, ci, N)) (hc : vwCl[ci]? = some q) (hq : (hp_ty dA)[3]? = some (dA 3, .object q.1)) (hdg : decode cc pc = .ok (.aastore, 1))
    (kk : ∀ (H1 : Heap) (locs1 : List Loc), hp_J dC dI dA κ B g H0 H1 locs1 → W p l e R s m args below meth c H1 locs1 cells slots Q (F0 m (pc + 1) ls (rest))) : W p l e R s m args below meth c H locs cells slots Q (F0 m (pc) ls (.ref b :: .int i :: .ref a :: rest)) := by
  obtain ⟨⟨F, hM, hO⟩, hS0⟩ := hJ
  have h := hM a
  rw [hκ, ht] at h
  have hv := hM b
  rw [hκb, htb] at hv
  obtain ⟨cell, g1, g2, g3, -⟩ := (show t_OB b (dC ci) N (dI ci) H (F b) from hv)
  have hin := hi_in h1 h2
  have hlt : i.toNatClampNeg < n := Nat.not_le.mp fun q => hin (Or.inr q)
  have hi0 : ¬ i < 0 := fun q => hin (Or.inl q)
  have hcls := (hK.1 ci q hc).2
  obtain ⟨kA, comp, k1, k2', k3, -⟩ := (hK.2 3 _ hq).2
  have hcomp : comp = dC ci := Option.some.inj (k3.symm.trans hcls.1)
  subst hcomp
  obtain ⟨kC, hkC, -⟩ := id hcls.2
  refine W.aast hx hb h (fun q h => by cases h) (fun h => by cases h) k1 k2' rfl hkC ⟨hi0, by show _ < (arrV _ _ _).slots.size; rw [arrV_size]; exact hlt⟩ g1 (fun q h => by rw [g3] at h; cases h) (by rw [g2]; exact hkC) (by rw [g2]; exact va_assign hcls) rfl rfl hdg fun H' e1 e2 e3 => ?_
  refine kk H' _ ⟨⟨_, hp_set (k := i.toInt.toNat) (v := .ref b) hM ?_ e3, hp_setO hO (by rw [hκ, hs]; exact ⟨b, rfl, hκb⟩)⟩, hS0.put e2 e3 (hW.1 a (by rw [hκ]; exact h0))⟩
  rw [hκ, ht]
  exact e1.trans (congrArg some (arrV_store _ _ _ _ _))
theorem hp_aast4 (hx : p.tables.exec = Jvm.exec) (hb : c.code = cc) {kd n : Nat} (hK : va_K (dC, dI) vwCl (hp_ty dA) s) (hJ : hp_J dC dI dA κ B g H0 H locs) (hκ : κ a = kd) (ht : hk_t kd = (2, 4, n)) {i : Int32} (h1 : 0 ≤ i.toInt) (h2 : i.toInt < (n : Int)) {b k2 ci N : Nat} {q : vw_C} (h0 : kd ≠ 0) (hW : hp_W κ B) (hs : hk_s kd i.toInt.toNat = (4, k2)) (hκb : κ b = k2) (htb : hk_t k2 = (1, ci, N)) (hc : vwCl[ci]? = some q) (hq : (hp_ty dA)[4]? = some (dA 4, .object q.1)) (hdg : decode cc pc = .ok (.aastore, 1))
    (kk : ∀ (H1 : Heap) (locs1 : List Loc), hp_J dC dI dA κ B g H0 H1 locs1 → W p l e R s m args below meth c H1 locs1 cells slots Q (F0 m (pc + 1) ls (rest))) : W p l e R s m args below meth c H locs cells slots Q (F0 m (pc) ls (.ref b :: .int i :: .ref a :: rest)) := by
  obtain ⟨⟨F, hM, hO⟩, hS0⟩ := hJ
  have h := hM a
  rw [hκ, ht] at h
  have hv := hM b
  rw [hκb, htb] at hv
  obtain ⟨cell, g1, g2, g3, -⟩ := (show t_OB b (dC ci) N (dI ci) H (F b) from hv)
  have hin := hi_in h1 h2
  have hlt : i.toNatClampNeg < n := Nat.not_le.mp fun q => hin (Or.inr q)
  have hi0 : ¬ i < 0 := fun q => hin (Or.inl q)
  have hcls := (hK.1 ci q hc).2
  obtain ⟨kA, comp, k1, k2', k3, -⟩ := (hK.2 4 _ hq).2
  have hcomp : comp = dC ci := Option.some.inj (k3.symm.trans hcls.1)
  subst hcomp
  obtain ⟨kC, hkC, -⟩ := id hcls.2
  refine W.aast hx hb h (fun q h => by cases h) (fun h => by cases h) k1 k2' rfl hkC ⟨hi0, by show _ < (arrV _ _ _).slots.size; rw [arrV_size]; exact hlt⟩ g1 (fun q h => by rw [g3] at h; cases h) (by rw [g2]; exact hkC) (by rw [g2]; exact va_assign hcls) rfl rfl hdg fun H' e1 e2 e3 => ?_
  refine kk H' _ ⟨⟨_, hp_set (k := i.toInt.toNat) (v := .ref b) hM ?_ e3, hp_setO hO (by rw [hκ, hs]; exact ⟨b, rfl, hκb⟩)⟩, hS0.put e2 e3 (hW.1 a (by rw [hκ]; exact h0))⟩
  rw [hκ, ht]
  exact e1.trans (congrArg some (arrV_store _ _ _ _ _))
theorem hp_alen (hx : p.tables.exec = Jvm.exec) (hb : c.code = cc) {kd ty n : Nat} {q : ClassId × FieldType} (hK : va_K (dC, dI) vwCl (hp_ty dA) s) (hJ : hp_J dC dI dA κ B g H0 H locs) (hκ : κ a = kd) (ht : hk_t kd = (2, ty, n)) (hq : (hp_ty dA)[ty]? = some q) (hqa : q.1 = dA ty) (hn : n < 2147483648) (hdg : decode cc pc = .ok (.arraylength, 1))
    (kk : ∀ x : Int32, x.toInt = (n : Int) → W p l e R s m args below meth c H locs cells slots Q (F0 m (pc + 1) ls (.int x :: rest))) : W p l e R s m args below meth c H locs cells slots Q (F0 m (pc) ls (.ref a :: rest)) := by
  obtain ⟨⟨F, hM, hO⟩, -⟩ := hJ
  have h := hM a
  rw [hκ, ht] at h
  have h9 := (hK.2 ty q hq).1
  rw [hqa] at h9
  exact W.alen (n := Int32.ofNat n) hx hb h (h9 n (F a)) (by rw [show (arrV (dA ty) n (F a)).slots.size = n from arrV_size _ _ _] <;> rfl) rfl rfl hdg (kk _ (nI_toInt (n := n) (by omega)))
-- calls and returns
theorem hp_calli {post : Int32 → (Nat → Nat → Int) → Prop} {av : Array Value} (hr : va_Run p l e R s m args below meth c H locs cells slots 0 0 (F0 m pc ls st0) rest (hp_Qi dC dI dA κ B post av) (hp_A B)) (hJ : hp_J dC dI dA κ B g H0 H locs)
    (kk : ∀ (r : Int32) (g' : Nat → Nat → Int) (H1 : Heap) (locs1 : List Loc), post r g' → hp_J dC dI dA κ B g' H0 H1 locs1 → W p l e R s m args below meth c H1 locs1 cells slots Q (F0 m (pc + 3) ls (.int r :: rest))) : W p l e R s m args below meth c H locs cells slots Q (F0 m (pc) ls (st0)) := va_calli hr hJ.2 (fun _ _ h => h) (fun _ h => h) (fun r u t H1 locs1 ht hvm hp hb' _ _ hS => kk r u H1 locs1 hp ⟨by obtain ⟨-, -, -, h⟩ := hb'; rw [ht] at h; exact h, hS⟩)
theorem hp_callv {post : (Nat → Nat → Int) → Prop} {av : Array Value} (hr : va_Run p l e R s m args below meth c H locs cells slots 0 0 (F0 m pc ls st0) rest (hp_Qv dC dI dA κ B post av) (hp_A B)) (hJ : hp_J dC dI dA κ B g H0 H locs)
    (kk : ∀ (g' : Nat → Nat → Int) (H1 : Heap) (locs1 : List Loc), post g' → hp_J dC dI dA κ B g' H0 H1 locs1 → W p l e R s m args below meth c H1 locs1 cells slots Q (F0 m (pc + 3) ls (rest))) : W p l e R s m args below meth c H locs cells slots Q (F0 m (pc) ls (st0)) := va_callv hr hJ.2 (fun _ _ h => h) (fun _ h => h) (fun u t H1 locs1 ht hvm hp hb' _ _ hS => kk u H1 locs1 hp ⟨by obtain ⟨-, -, -, h⟩ := hb'; rw [ht] at h; exact h, hS⟩)
theorem hp_callr {kd : Nat} {post : (Nat → Nat → Int) → Prop} {av : Array Value} (hr : va_Run p l e R s m args below meth c H locs cells slots 0 0 (F0 m pc ls st0) rest (hp_Qr dC dI dA κ B kd post av) (hp_A B)) (hJ : hp_J dC dI dA κ B g H0 H locs)
    (kk : ∀ (b : Nat) (g' : Nat → Nat → Int) (H1 : Heap) (locs1 : List Loc), κ b = kd → post g' → hp_J dC dI dA κ B g' H0 H1 locs1 → W p l e R s m args below meth c H1 locs1 cells slots Q (F0 m (pc + 3) ls (.ref b :: rest))) : W p l e R s m args below meth c H locs cells slots Q (F0 m (pc) ls (st0)) := va_callr hr hJ.2 (fun _ _ h => h) (fun _ h => h) (fun u b t H1 locs1 ht hvm hp hb' _ _ hS => kk b u H1 locs1 hb'.2 hp ⟨by obtain ⟨⟨-, -, -, h⟩, -⟩ := hb'; rw [ht] at h; exact h, hS⟩)
theorem hp_iret (hx : p.tables.exec = Jvm.exec) (hb : c.code = cc) (hK : va_K (dC, dI) vwCl (hp_ty dA) s) (hN : hp_N s) (hW : hp_W κ B) (hlocks : meth.locks = false) (hJ : hp_J dC dI dA κ B g s.heap H locs) (hr : meth.sig.returnType = some .int) {post : Int32 → (Nat → Nat → Int) → Prop} {v : Int32} (hp : post v g) (hdg : decode cc pc = .ok (.ireturn, 1)) : W p l e R s m args below meth c H locs cells slots (MQ below (hp_Qi dC dI dA κ B post) args s cells slots (hp_A B)) (F0 m (pc) ls ([.int v])) :=
  W.iret hx hb hr (fun t ht hw => ⟨⟨v, g, rfl, hp, hp_S.of hK hN hW hJ ht hw⟩, hJ.2.F ht⟩) hJ.2.2.2 hdg hlocks
theorem hp_zret (hx : p.tables.exec = Jvm.exec) (hb : c.code = cc) (hK : va_K (dC, dI) vwCl (hp_ty dA) s) (hN : hp_N s) (hW : hp_W κ B) (hlocks : meth.locks = false) (hJ : hp_J dC dI dA κ B g s.heap H locs) (hr : meth.sig.returnType = some .boolean) {post : Int32 → (Nat → Nat → Int) → Prop} {v : Int32} (hv : v.toInt = 0 ∨ v.toInt = 1) (hp : post v g) (hdg : decode cc pc = .ok (.ireturn, 1)) : W p l e R s m args below meth c H locs cells slots (MQ below (hp_Qi dC dI dA κ B post) args s cells slots (hp_A B)) (F0 m (pc) ls ([.int v])) :=
  W.zret hx hb hr (hi_bool hv) (fun t ht hw => ⟨⟨v, g, rfl, hp, hp_S.of hK hN hW hJ ht hw⟩, hJ.2.F ht⟩) hJ.2.2.2 hdg hlocks
theorem hp_vret (hx : p.tables.exec = Jvm.exec) (hb : c.code = cc) (hK : va_K (dC, dI) vwCl (hp_ty dA) s) (hN : hp_N s) (hW : hp_W κ B) (hlocks : meth.locks = false) (hJ : hp_J dC dI dA κ B g s.heap H locs) (hr : meth.sig.returnType = none) {post : (Nat → Nat → Int) → Prop} (hp : post g) (hdg : decode cc pc = .ok (.return_, 1)) : W p l e R s m args below meth c H locs cells slots (MQ below (hp_Qv dC dI dA κ B post) args s cells slots (hp_A B)) (F0 m (pc) ls ([])) :=
  W.vret hx hb hr (fun t ht hw => ⟨⟨g, rfl, hp, hp_S.of hK hN hW hJ ht hw⟩, hJ.2.F ht⟩) hJ.2.2.2 hdg hlocks
theorem hp_aret (hx : p.tables.exec = Jvm.exec) (hb : c.code = cc) (hK : va_K (dC, dI) vwCl (hp_ty dA) s) (hN : hp_N s) (hW : hp_W κ B) (hlocks : meth.locks = false) (hJ : hp_J dC dI dA κ B g s.heap H locs) {C : String} (hr : meth.sig.returnType = some (.object C)) {kd b : Nat} {post : (Nat → Nat → Int) → Prop} (hκ : κ b = kd) (hp : post g) (hdg : decode cc pc = .ok (.areturn, 1)) : W p l e R s m args below meth c H locs cells slots (MQ below (hp_Qr dC dI dA κ B kd post) args s cells slots (hp_A B)) (F0 m (pc) ls ([.ref b])) :=
  W.aret hx hb hr (Or.inl ⟨_, rfl⟩) (Or.inr ⟨_, rfl⟩) (fun t ht hw => ⟨⟨g, b, rfl, hp, hp_S.of hK hN hW hJ ht hw, hκ⟩, hJ.2.F ht⟩) hJ.2.2.2 hdg hlocks
end HPW
end
section
theorem hi_fz {v : Int32} (h : v.toInt = 0 ∨ v.toInt = 1) : fits .boolean (.int v) = true := by
  rcases h with h | h
  · rw [show v = 0 from hi_eq.mpr h]; rfl
  · rw [show v = 1 from hi_eq.mpr h]; rfl
theorem hi_fb {x : Int32} (h1 : -128 ≤ x.toInt) (h2 : x.toInt ≤ 127) : fits .byte (.int x) = true := by
  have h := lg_i2b_small (v := x) h1 (by omega)
  rw [← h]
  exact pk_fb x
theorem hi_nn {x : Int32} (h : 0 ≤ x.toInt) : ¬ x < 0 := fun q => by
  have := hi_lt.mp q
  rw [hi_0] at this
  omega
theorem hi_or9 {x y : Int32} (h1 : 0 ≤ x.toInt) (h2 : x.toInt ≤ 511) (h3 : 0 ≤ y.toInt) (h4 : y.toInt ≤ 511) : 0 ≤ (x ||| y).toInt ∧ (x ||| y).toInt ≤ 511 := by
  obtain ⟨a, ha, rfl⟩ : ∃ a : Nat, a < 512 ∧ x = nI a := ⟨x.toInt.toNat, by omega, hi_eq.mpr (by rw [nI_toInt (by omega)]; omega)⟩
  obtain ⟨b, hb, rfl⟩ : ∃ b : Nat, b < 512 ∧ y = nI b := ⟨y.toInt.toNat, by omega, hi_eq.mpr (by rw [nI_toInt (by omega)]; omega)⟩
  have hlt : a ||| b < 2 ^ 9 := Nat.or_lt_two_pow ha hb
  have h : nI a ||| nI b = nI (a ||| b) := by
    apply Int32.toBitVec_inj.mp
    apply BitVec.eq_of_toNat_eq
    rw [pk_tn (by omega)]
    show ((nI a).toBitVec ||| (nI b).toBitVec).toNat = _
    rw [BitVec.toNat_or, pk_tn (by omega), pk_tn (by omega)]
  rw [h, nI_toInt (by omega)]
  omega
theorem hi_shl8 {x y : Int32} (hy : y.toInt = 8) (hx : 0 ≤ x.toInt ∧ x.toInt ≤ 1) : 0 ≤ (x <<< (y &&& 31)).toInt ∧ (x <<< (y &&& 31)).toInt ≤ 256 := by
  rw [show y = 8 from hi_eq.mpr hy]
  rcases (show x.toInt = 0 ∨ x.toInt = 1 by omega) with h | h
  · rw [show x = 0 from hi_eq.mpr h]; decide
  · rw [show x = 1 from hi_eq.mpr h]; decide
end
section
set_option maxRecDepth 100000 in
set_option maxHeartbeats 4000000 in
theorem c_X6_isMore (l : Launch) (dC : Nat → ClassId) (dI : Nat → Nat → Nat) (dA : Nat → ClassId) (κ : Nat → Nat) (B : Nat) (g : Nat → Nat → Int) (type : Int32) : Met l yX6_isMore wsX6_isMore ({ frames := 0, cells := 0, slots := 0, locals := 0 } : Room) (hp_Pre dC dI dA κ B g [Value.int type]) (hp_Qi dC dI dA κ B (fun r u => g = u ∧ ((r.toInt = 1 ∧ 4 ≤ type.toInt ∧ type.toInt ≤ 8) ∨ (r.toInt = 0 ∧ (type.toInt < 4 ∨ 8 < type.toInt))))) 0 0 (hp_A B) := by
  refine Met.ofW (cc := cX6_isMore) (maxL := 1) (ret := (some .boolean)) (by decide) rfl ?_
  intro p e s m args below meth c s₁ Bd hml hv
  obtain ⟨rfl, hK, hN, hW, hF⟩ := hv
  have hx := Bd.exec
  have hb := Bd.bytes
  have hr := Bd.returns
  have hts := atoms_spec (ws := wsX6_isMore) Bd.pre
  have hown : s.vm.findClass RX6 = some m.cls := findClass_of_methodNamed Bd.named
  have hlocks := Bd.notSynchronized
  have hJ : hp_J dC dI dA κ B g s.heap s.heap [] := ⟨hF, va_S.rf⟩
  have hl := lv_entry ([Value.int type]) (n := 1) (Nat.le_of_ble_eq_true rfl)
  rw [lg_entry_eq]
  generalize (lg_sl ([Value.int type]) ++ List.replicate (1 - (lg_sl ([Value.int type])).length) Slot.unset).toArray = ls at hl ⊢
  have hl : lv_has ls 1 [(0, .int type)] := hl
  refine lv_iload_n hx hb dX6_isMore_0 rfl (lv_at hl 0 rfl) ?_
  refine hq_iconst hx hb dX6_isMore_1 (by decide) (by decide) (fun z1 ez1 => ?_)
  refine hq_icmp_lt (tgt := 15) hx hb dX6_isMore_2 (by decide) (fun c2 => ?_) (fun c2 => ?_)
  · refine hq_iconst hx hb dX6_isMore_15 (by decide) (by decide) (fun z3 ez3 => ?_)
    exact hp_zret hx hb hK hN hW hlocks hJ hr (by omega) ⟨rfl, by omega⟩ dX6_isMore_16
  · refine lv_iload_n hx hb dX6_isMore_5 rfl (lv_at hl 0 rfl) ?_
    refine hq_bipush hx hb dX6_isMore_6 (by decide) (fun z4 ez4 => ?_)
    refine hq_icmp_gt (tgt := 15) hx hb dX6_isMore_8 (by decide) (fun c5 => ?_) (fun c5 => ?_)
    · refine hq_iconst hx hb dX6_isMore_15 (by decide) (by decide) (fun z6 ez6 => ?_)
      exact hp_zret hx hb hK hN hW hlocks hJ hr (by omega) ⟨rfl, by omega⟩ dX6_isMore_16
    · refine hq_iconst hx hb dX6_isMore_11 (by decide) (by decide) (fun z7 ez7 => ?_)
      refine lv_goto (tgt := 16) hx hb dX6_isMore_12 (by decide) ?_
      exact hp_zret hx hb hK hN hW hlocks hJ hr (by omega) ⟨rfl, by omega⟩ dX6_isMore_16
set_option maxRecDepth 100000 in
set_option maxHeartbeats 4000000 in
theorem c_J7_fill_53178 (l : Launch) (dC : Nat → ClassId) (dI : Nat → Nat → Nat) (dA : Nat → ClassId) (κ : Nat → Nat) (B : Nat) (g : Nat → Nat → Int) (q : Nat) (hq : q < 20) (a : Nat) (ka : κ a = 340 + q) (val : Int32) (hv : -1 ≤ val.toInt ∧ val.toInt ≤ 0) : Met l yJ7_fill_53178 wsJ7_fill_53178 ({ frames := 0, cells := 0, slots := 0, locals := 0 } : Room) (hp_Pre dC dI dA κ B g [Value.ref a, Value.int val]) (hp_Qv dC dI dA κ B (fun u => g = u)) 0 0 (hp_A B) := by
  refine Met.ofW (cc := cJ7_fill_53178) (maxL := 4) (ret := none) (by decide) rfl ?_
  intro p e s m args below meth c s₁ Bd hml hv
  obtain ⟨rfl, hK, hN, hW, hF⟩ := hv
  have hx := Bd.exec
  have hb := Bd.bytes
  have hr := Bd.returns
  have hts := atoms_spec (ws := wsJ7_fill_53178) Bd.pre
  have hown : s.vm.findClass RJ7 = some m.cls := findClass_of_methodNamed Bd.named
  have hlocks := Bd.notSynchronized
  have hJ : hp_J dC dI dA κ B g s.heap s.heap [] := ⟨hF, va_S.rf⟩
  have hl := lv_entry ([Value.ref a, Value.int val]) (n := 4) (Nat.le_of_ble_eq_true rfl)
  rw [lg_entry_eq]
  generalize (lg_sl ([Value.ref a, Value.int val]) ++ List.replicate (4 - (lg_sl ([Value.ref a, Value.int val])).length) Slot.unset).toArray = ls at hl ⊢
  have hl : lv_has ls 4 [(0, .ref a), (1, .int val)] := hl
  refine hq_iconst hx hb dJ7_fill_53178_0 (by decide) (by decide) (fun z1 ez1 => ?_)
  refine lv_istore_n (lv' := [(2, .int z1), (0, .ref a), (1, .int val)]) hx hb dJ7_fill_53178_1 rfl hl (by decide) rfl (fun ls hl => ?_)
  refine lv_aload_n hx hb dJ7_fill_53178_2 rfl (lv_at hl 1 rfl) ?_
  refine hp_alen (q := (dA 0, .int)) (ty := 0) (n := 9) hx hb hK hJ ka (hk_t340 (by omega)) rfl rfl (by decide) dJ7_fill_53178_3 (fun x2 ex2 => ?_)
  have ex2 : x2.toInt = 9 := ex2
  refine lv_istore_n (lv' := [(3, .int x2), (2, .int z1), (0, .ref a), (1, .int val)]) hx hb dJ7_fill_53178_4 rfl hl (by decide) rfl (fun ls hl => ?_)
  have lp4 : ∀ (nlp4 : Nat) (v3 : Int32) (H : Heap) (locs : List Loc) (ls : Array Slot), (0 ≤ v3.toInt) → (v3.toInt ≤ 9) → (9 - v3.toInt < (nlp4 : Int)) → hp_J dC dI dA κ B g s.heap H locs → lv_has ls 4 [(0, .ref a), (1, .int val), (2, .int v3), (3, .int x2)] → W p l e (headSpec wsJ7_fill_53178 ({ frames := 0, cells := 0, slots := 0, locals := 0 } : Room)).room s m ([Value.ref a, Value.int val] : List Value).toArray below meth c H locs 0 0 (MQ below (hp_Qv dC dI dA κ B (fun u => g = u)) ([Value.ref a, Value.int val] : List Value).toArray s 0 0 (hp_A B)) (F0 m 5 ls []) := by
    intro nlp4
    induction nlp4 with
    | zero => intro v3 H locs ls iv6 iv7 hm5 hJ hl; exact absurd hm5 (by omega)
    | succ nlp4 ihlp4 =>
      intro v3 H locs ls iv6 iv7 hm5 hJ hl
      refine lv_iload_n hx hb dJ7_fill_53178_5 rfl (lv_at hl 2 rfl) ?_
      refine lv_iload_n hx hb dJ7_fill_53178_6 rfl (lv_at hl 3 rfl) ?_
      refine hq_icmp_ge (tgt := 20) hx hb dJ7_fill_53178_7 (by decide) (fun c8 => ?_) (fun c8 => ?_)
      · exact hp_vret hx hb hK hN hW hlocks hJ hr rfl dJ7_fill_53178_20
      · refine lv_aload_n hx hb dJ7_fill_53178_10 rfl (lv_at hl 0 rfl) ?_
        refine lv_iload_n hx hb dJ7_fill_53178_11 rfl (lv_at hl 2 rfl) ?_
        refine lv_iload_n hx hb dJ7_fill_53178_12 rfl (lv_at hl 1 rfl) ?_
        refine hp_iast (kd := 340 + q) (n := 9) hx hb hK hJ ka (hk_t340 (by omega)) (by omega) (by omega) (by omega) hW (hk_s340 (q := q) (by omega) _) (hs13_n _) (hs13_o (by omega) (by omega)) dJ7_fill_53178_13 (fun H locs hJ => ?_)
        refine hq_iinc (k := 2) (lv' := fun (z9 : Int32) => [(2, .int z9), (0, .ref a), (1, .int val), (3, .int x2)]) hx hb dJ7_fill_53178_14 hl rfl (by decide) (by decide) (by omega) (by omega) (by decide) (fun _ => rfl) (fun x9 ls ex9 hl => ?_)
        have hl : lv_has ls 4 [(2, .int x9), (0, .ref a), (1, .int val), (3, .int x2)] := hl
        refine lv_goto (tgt := 5) hx hb dJ7_fill_53178_17 (by decide) ?_
        exact ihlp4 x9 _ _ ls (by omega) (by omega) (by omega) hJ (lv_sub hl [1, 2, 0, 3] rfl)
  exact lp4 ((9 - z1.toInt).toNat + 1) z1 _ _ ls (by omega) (by omega) (by omega) hJ (lv_sub hl [2, 3, 1, 0] rfl)
set_option maxRecDepth 100000 in
set_option maxHeartbeats 4000000 in
theorem c_X0_isKept (l : Launch) (dC : Nat → ClassId) (dI : Nat → Nat → Nat) (dA : Nat → ClassId) (κ : Nat → Nat) (B : Nat) (g : Nat → Nat → Int) (type : Int32) : Met l yX0_isKept wsX0_isKept ({ frames := 1, cells := 0, slots := 0, locals := 20 } : Room) (hp_Pre dC dI dA κ B g [Value.int type]) (hp_Qi dC dI dA κ B (fun r u => g = u ∧ ((r.toInt = 1 ∧ (type.toInt = 1 ∨ type.toInt = 2 ∨ (4 ≤ type.toInt ∧ type.toInt ≤ 8))) ∨ (r.toInt = 0 ∧ ¬ (type.toInt = 1 ∨ type.toInt = 2 ∨ (4 ≤ type.toInt ∧ type.toInt ≤ 8)))))) 0 0 (hp_A B) := by
  refine Met.ofW (cc := cX0_isKept) (maxL := 1) (ret := (some .boolean)) (by decide) rfl ?_
  intro p e s m args below meth c s₁ Bd hml hv
  obtain ⟨rfl, hK, hN, hW, hF⟩ := hv
  have hx := Bd.exec
  have hb := Bd.bytes
  have hr := Bd.returns
  have hts := atoms_spec (ws := wsX0_isKept) Bd.pre
  have hown : s.vm.findClass RX0 = some m.cls := findClass_of_methodNamed Bd.named
  have hlocks := Bd.notSynchronized
  have hJ : hp_J dC dI dA κ B g s.heap s.heap [] := ⟨hF, va_S.rf⟩
  have hl := lv_entry ([Value.int type]) (n := 1) (Nat.le_of_ble_eq_true rfl)
  rw [lg_entry_eq]
  generalize (lg_sl ([Value.int type]) ++ List.replicate (1 - (lg_sl ([Value.int type])).length) Slot.unset).toArray = ls at hl ⊢
  have hl : lv_has ls 1 [(0, .int type)] := hl
  refine lv_iload_n hx hb dX0_isKept_0 rfl (lv_at hl 0 rfl) ?_
  refine hq_iconst hx hb dX0_isKept_1 (by decide) (by decide) (fun z1 ez1 => ?_)
  refine hq_icmp_eq (tgt := 17) hx hb dX0_isKept_2 (by decide) (fun c2 => ?_) (fun c2 => ?_)
  · refine hq_iconst hx hb dX0_isKept_17 (by decide) (by decide) (fun z3 ez3 => ?_)
    refine lv_goto (tgt := 22) hx hb dX0_isKept_18 (by decide) ?_
    exact hp_zret hx hb hK hN hW hlocks hJ hr (by omega) ⟨rfl, by omega⟩ dX0_isKept_22
  · refine lv_iload_n hx hb dX0_isKept_5 rfl (lv_at hl 0 rfl) ?_
    refine hq_iconst hx hb dX0_isKept_6 (by decide) (by decide) (fun z4 ez4 => ?_)
    refine hq_icmp_eq (tgt := 17) hx hb dX0_isKept_7 (by decide) (fun c5 => ?_) (fun c5 => ?_)
    · refine hq_iconst hx hb dX0_isKept_17 (by decide) (by decide) (fun z6 ez6 => ?_)
      refine lv_goto (tgt := 22) hx hb dX0_isKept_18 (by decide) ?_
      exact hp_zret hx hb hK hN hW hlocks hJ hr (by omega) ⟨rfl, by omega⟩ dX0_isKept_22
    · refine lv_iload_n hx hb dX0_isKept_10 rfl (lv_at hl 0 rfl) ?_
      refine hp_calli (va_runSN (As := [.int type]) (rest := []) ⟨hx, hb, hml, hown, hts⟩ (c_X6_isMore l dC dI dA κ B g type) ⟨va_cnB 1 hts gX0_isKept_X6_isMore_n22 rfl rfl rfl (hN _ (List.mem_of_getElem? (i := 4) rfl)) (hts (.initialized RX6) (List.mem_of_getElem? (i := 2) rfl)) (by decide +kernel) ⟨Nat.le_of_ble_eq_true rfl, Nat.le_of_ble_eq_true rfl⟩, (hts (.static yX6_isMore) (List.mem_of_getElem? (i := 1) rfl)), trivial⟩ (hp_preS [.int type] hK hN hW hJ) rfl rfl hl.1 rfl (lv_room (Nat.le_of_ble_eq_true rfl)) dX0_isKept_11 ⟨Nat.zero_le _, Nat.zero_le _⟩) hJ (fun x8 g7 H locs hp hJ => ?_)
      obtain ⟨rfl, f9⟩ := hp
      refine hq_if_eq (tgt := 21) hx hb dX0_isKept_14 (by decide) (fun c10 => ?_) (fun c10 => ?_)
      · refine hq_iconst hx hb dX0_isKept_21 (by decide) (by decide) (fun z11 ez11 => ?_)
        exact hp_zret hx hb hK hN hW hlocks hJ hr (by omega) ⟨rfl, by omega⟩ dX0_isKept_22
      · refine hq_iconst hx hb dX0_isKept_17 (by decide) (by decide) (fun z12 ez12 => ?_)
        refine lv_goto (tgt := 22) hx hb dX0_isKept_18 (by decide) ?_
        exact hp_zret hx hb hK hN hW hlocks hJ hr (by omega) ⟨rfl, by omega⟩ dX0_isKept_22
set_option maxRecDepth 100000 in
set_option maxHeartbeats 4000000 in
theorem c_X0_startOf (l : Launch) (dC : Nat → ClassId) (dI : Nat → Nat → Nat) (dA : Nat → ClassId) (κ : Nat → Nat) (B : Nat) (g : Nat → Nat → Int) (type : Int32) (ht0 : 0 ≤ type.toInt) (ht8 : type.toInt ≤ 8) : Met l yX0_startOf wsX0_startOf ({ frames := 0, cells := 0, slots := 0, locals := 0 } : Room) (hp_Pre dC dI dA κ B g [Value.int type]) (hp_Qi dC dI dA κ B (fun r u => g = u ∧ ((type.toInt < 3 ∧ r.toInt = (type.toInt - 1) * 60) ∨ (3 ≤ type.toInt ∧ r.toInt = (type.toInt - 2) * 60)))) 0 0 (hp_A B) := by
  refine Met.ofW (cc := cX0_startOf) (maxL := 1) (ret := (some .int)) (by decide) rfl ?_
  intro p e s m args below meth c s₁ Bd hml hv
  obtain ⟨rfl, hK, hN, hW, hF⟩ := hv
  have hx := Bd.exec
  have hb := Bd.bytes
  have hr := Bd.returns
  have hts := atoms_spec (ws := wsX0_startOf) Bd.pre
  have hown : s.vm.findClass RX0 = some m.cls := findClass_of_methodNamed Bd.named
  have hlocks := Bd.notSynchronized
  have hJ : hp_J dC dI dA κ B g s.heap s.heap [] := ⟨hF, va_S.rf⟩
  have hl := lv_entry ([Value.int type]) (n := 1) (Nat.le_of_ble_eq_true rfl)
  rw [lg_entry_eq]
  generalize (lg_sl ([Value.int type]) ++ List.replicate (1 - (lg_sl ([Value.int type])).length) Slot.unset).toArray = ls at hl ⊢
  have hl : lv_has ls 1 [(0, .int type)] := hl
  refine lv_iload_n hx hb dX0_startOf_0 rfl (lv_at hl 0 rfl) ?_
  refine hq_iconst hx hb dX0_startOf_1 (by decide) (by decide) (fun z1 ez1 => ?_)
  refine hq_icmp_ge (tgt := 11) hx hb dX0_startOf_2 (by decide) (fun c2 => ?_) (fun c2 => ?_)
  · refine lv_iload_n hx hb dX0_startOf_11 rfl (lv_at hl 0 rfl) ?_
    refine hq_iconst hx hb dX0_startOf_12 (by decide) (by decide) (fun z3 ez3 => ?_)
    refine hq_isub hx hb dX0_startOf_13 (by omega) (by omega) (fun x4 ex4 => ?_)
    refine hq_bipush hx hb dX0_startOf_14 (by decide) (fun z5 ez5 => ?_)
    refine hq_imul (w := x4.toInt * 60) hx hb dX0_startOf_16 (by rw [ez5]) (by omega) (by omega) (fun x6 ex6 => ?_)
    exact hp_iret hx hb hK hN hW hlocks hJ hr ⟨rfl, by omega⟩ dX0_startOf_17
  · refine lv_iload_n hx hb dX0_startOf_5 rfl (lv_at hl 0 rfl) ?_
    refine hq_iconst hx hb dX0_startOf_6 (by decide) (by decide) (fun z7 ez7 => ?_)
    refine hq_isub hx hb dX0_startOf_7 (by omega) (by omega) (fun x8 ex8 => ?_)
    refine lv_goto (tgt := 14) hx hb dX0_startOf_8 (by decide) ?_
    refine hq_bipush hx hb dX0_startOf_14 (by decide) (fun z9 ez9 => ?_)
    refine hq_imul (w := x8.toInt * 60) hx hb dX0_startOf_16 (by rw [ez9]) (by omega) (by omega) (fun x10 ex10 => ?_)
    exact hp_iret hx hb hK hN hW hlocks hJ hr ⟨rfl, by omega⟩ dX0_startOf_17
theorem iX0_clear_X0 : ∀ w ∈ wsX00, w ∈ wsX0_clear := fun _ h => List.mem_cons_of_mem _ (List.mem_append_right _ h)
set_option maxRecDepth 100000 in
set_option maxHeartbeats 4000000 in
theorem c_X0_clear (l : Launch) (dC : Nat → ClassId) (dI : Nat → Nat → Nat) (dA : Nat → ClassId) (κ : Nat → Nat) (B : Nat) (g : Nat → Nat → Int) (q : Nat) (hq : q < 20) (h0 : Nat) (k0 : κ h0 = 320 + q) : Met l yX0_clear wsX0_clear ({ frames := 1, cells := 0, slots := 0, locals := 23 } : Room) (hp_Pre dC dI dA κ B g [Value.ref h0]) (hp_Qv dC dI dA κ B (fun u => g = u)) 0 0 (hp_A B) := by
  refine Met.ofW (cc := cX0_clear) (maxL := 1) (ret := none) (by decide) rfl ?_
  intro p e s m args below meth c s₁ Bd hml hv
  obtain ⟨rfl, hK, hN, hW, hF⟩ := hv
  have hx := Bd.exec
  have hb := Bd.bytes
  have hr := Bd.returns
  have hts := atoms_spec (ws := wsX0_clear) Bd.pre
  have hown : s.vm.findClass RX0 = some m.cls := findClass_of_methodNamed Bd.named
  have hlocks := Bd.notSynchronized
  have hJ : hp_J dC dI dA κ B g s.heap s.heap [] := ⟨hF, va_S.rf⟩
  have hl := lv_entry ([Value.ref h0]) (n := 1) (Nat.le_of_ble_eq_true rfl)
  rw [lg_entry_eq]
  generalize (lg_sl ([Value.ref h0]) ++ List.replicate (1 - (lg_sl ([Value.ref h0])).length) Slot.unset).toArray = ls at hl ⊢
  have hl : lv_has ls 1 [(0, .ref h0)] := hl
  refine lv_aload_n hx hb dX0_clear_0 rfl (lv_at hl 0 rfl) ?_
  refine hp_getr (C := RX0) (T := TX0) (N := 2) (ci := 0) (kd := 320 + q) hx hb hts iX0_clear_X0 hown hK hJ k0 (hk_t320 (by omega)) rfl 0 (by decide) (hts (.fieldLink RX0 9 "NeighborBook$Contents" "sizes" "[I") (List.mem_of_getElem? (i := 1) rfl)) (fun _ h9 => h9) (hk_s320 (by omega) 0) dX0_clear_1 (fun b1 kb1 => ?_)
  refine hq_iconst hx hb dX0_clear_4 (by decide) (by decide) (fun z2 ez2 => ?_)
  refine hp_callv (va_runS (As := [.ref b1, .int z2]) (rest := []) ⟨hx, hb, hml, hown, hts⟩ (c_J7_fill_53178 l dC dI dA κ B g (q) (by omega) b1 kb1 z2 (by omega)) (va_cwS 2 hts gX0_clear_J7_fill_53178 rfl rfl rfl (by decide +kernel) ⟨Nat.le_of_ble_eq_true rfl, Nat.le_of_ble_eq_true rfl⟩) (hp_preS [.ref b1, .int z2] hK hN hW hJ) rfl rfl hl.1 rfl (lv_room (Nat.le_of_ble_eq_true rfl)) dX0_clear_5 ⟨Nat.zero_le _, Nat.zero_le _⟩) hJ (fun g3 H locs hp hJ => ?_)
  subst hp
  exact hp_vret hx hb hK hN hW hlocks hJ hr rfl dX0_clear_8
end
section
/-! MAKING: kinds of what is being made are changed as its fields are set -/
def hp_V (κ : Nat → Nat) : Prop := ∀ a : Nat, κ a = 0 ∨ (hk_t (κ a)).1 ≠ 0
def hp_kk (κ : Nat → Nat) (b kd : Nat) : Nat → Nat := fun a => if a = b then kd else κ a
theorem hp_kk_s (κ : Nat → Nat) (b kd : Nat) : hp_kk κ b kd b = kd := if_pos rfl
theorem hp_kk_n {κ : Nat → Nat} {a b kd : Nat} (h : a ≠ b) : hp_kk κ b kd a = κ a := if_neg h
theorem hs_ok.mono {κ κ' : Nat → Nat} {e : Int} {sp : Nat × Nat} {v : Value} (h : hs_ok κ e sp v) (hk : sp.1 = 4 → ∀ b, κ b = sp.2 → κ' b = sp.2) : hs_ok κ' e sp v := by
  obtain ⟨a, t⟩ := sp
  match a, h, hk with
  | 4, h, hk => obtain ⟨b, h1, h2⟩ := h; exact ⟨b, h1, hk rfl b h2⟩
  | 7, _, _ => exact trivial
  | 0, h, _ => exact h
  | 1, h, _ => exact h
  | 2, h, _ => exact h
  | 3, h, _ => exact h
  | 5, h, _ => exact h
  | 6, h, _ => exact h
  | n + 8, h, _ => exact h
theorem hk_getD {l : List (Nat × Nat)} {k : Nat} {d : Nat × Nat} : l.getD k d ∈ l ∨ l.getD k d = d := by
  rw [List.getD_eq_getElem?_getD]
  cases h : l[k]? with
  | none => exact Or.inr rfl
  | some x => exact Or.inl (List.mem_of_getElem? h)
def hk_rg (t : Nat) : Bool := (decide (0 < t) && decide (t < 31)) || t == 38 || t == 39 || (decide (300 ≤ t) && decide (t < 380))
theorem hk_rg_p {t : Nat} (h : hk_rg t = true) : ((0 < t ∧ t < 31) ∨ t = 38 ∨ t = 39 ∨ (300 ≤ t ∧ t < 380)) := by
  unfold hk_rg at h
  simp only [Bool.or_eq_true, Bool.and_eq_true, decide_eq_true_eq, beq_iff_eq] at h
  omega
theorem hk_sr0 : ∀ kd, kd < 40 → (∀ sp ∈ (hk_l.getD kd ([], (7, 0))).1, sp.1 = 4 → hk_rg sp.2 = true) ∧ ((hk_l.getD kd ([], (7, 0))).2.1 = 4 → hk_rg (hk_l.getD kd ([], (7, 0))).2.2 = true) := by decide +kernel
def hk_ok (kd : Nat) : Prop := kd < 40 ∨ (40 ≤ kd ∧ kd < 53) ∨ (60 ≤ kd ∧ kd < 73) ∨ (80 ≤ kd ∧ kd < 85) ∨ (100 ≤ kd ∧ kd < 107) ∨ (110 ≤ kd ∧ kd < 115) ∨ (200 ≤ kd ∧ kd < 216) ∨ (300 ≤ kd ∧ kd < 400)
theorem hk_Bs_r0 : ∀ n, n < 7 → ∀ sp ∈ hk_Bs n 0, sp.1 = 4 → hk_rg sp.2 = true ∨ sp.2 = 80 := by decide +kernel
theorem hk_Bs_r6 : ∀ i, i < 5 → ∀ sp ∈ hk_Bs 6 i, sp.1 = 4 → hk_rg sp.2 = true ∨ sp.2 = 80 + i := by decide +kernel
theorem hk_Bs_r2 : ∀ n, n < 3 → ∀ sp ∈ hk_Bs n 0, sp.1 = 4 → hk_rg sp.2 = true := by decide +kernel
theorem hk_Ms_r : ∀ n, n < 16 → ∀ sp ∈ hk_Ms n, sp.1 = 4 → hk_rg sp.2 = true := by decide +kernel
theorem hk_fr {kd k t : Nat} (h1 : 300 ≤ kd) (h2 : kd < 400) (h : hk_f kd k = (4, t)) : 300 ≤ t ∧ t < 380 := by
  unfold hk_f at h
  split at h
  · rcases hk_getD (l := [(4, kd + 20), (2, 0), (1, 0), (1, 0)]) (k := k) (d := (7, 0)) with h3 | h3
    · rw [h] at h3
      simp only [List.mem_cons, Prod.mk.injEq, List.not_mem_nil, or_false] at h3
      omega
    · rw [h] at h3
      simp only [Prod.mk.injEq] at h3
      omega
  · split at h
    · rcases hk_getD (l := [(4, kd + 20), (4, kd + 40)]) (k := k) (d := (7, 0)) with h3 | h3
      · rw [h] at h3
        simp only [List.mem_cons, Prod.mk.injEq, List.not_mem_nil, or_false] at h3
        omega
      · rw [h] at h3
        simp only [Prod.mk.injEq] at h3
        omega
    · split at h
      · split at h
        · simp only [Prod.mk.injEq] at h
          omega
        · simp only [Prod.mk.injEq] at h
          omega
      · split at h
        · simp only [Prod.mk.injEq] at h
          omega
        · rcases hk_getD (l := [(4, kd - 40), (7, 0)]) (k := k) (d := (7, 0)) with h3 | h3
          · rw [h] at h3
            simp only [List.mem_cons, Prod.mk.injEq, List.not_mem_nil, or_false] at h3
            omega
          · rw [h] at h3
            simp only [Prod.mk.injEq] at h3
            omega
/-- which kinds a slot of a kind may name -/
theorem hk_sr {kd k t : Nat} (ho : hk_ok kd) (h : hk_s kd k = (4, t)) (hk : k < (hk_t kd).2.2) : ((0 < t ∧ t < 31) ∨ t = 38 ∨ t = 39 ∨ (300 ≤ t ∧ t < 380)) ∨ (60 ≤ kd ∧ kd < 73 ∧ t = kd - 20) ∨ (103 ≤ kd ∧ kd < 107 ∧ t = 80) ∨ (110 ≤ kd ∧ kd < 115 ∧ t = kd - 30) := by
  rcases ho with ho | ho | ho | ho | ho | ho | ho | ho
  · unfold hk_s at h
    rw [if_pos ho] at h
    obtain ⟨h1, h2⟩ := hk_sr0 kd ho
    rcases hk_getD (l := (hk_l.getD kd ([], (7, 0))).1) (k := k) (d := (hk_l.getD kd ([], (7, 0))).2) with h3 | h3
    · rw [h] at h3
      exact Or.inl (hk_rg_p (h1 _ h3 rfl))
    · rw [h] at h3
      rw [← h3] at h2
      exact Or.inl (hk_rg_p (h2 rfl))
  · unfold hk_s at h
    rw [if_neg (by omega), if_pos (by omega)] at h
    split at h
    · simp only [Prod.mk.injEq] at h
      omega
    · simp only [Prod.mk.injEq] at h
      omega
  · unfold hk_s at h
    rw [if_neg (by omega), if_neg (by omega), if_pos (by omega)] at h
    rcases hk_getD (l := [(4, kd - 20), (2, 0)]) (k := k) (d := (7, 0)) with h3 | h3
    · rw [h] at h3
      simp only [List.mem_cons, Prod.mk.injEq, List.not_mem_nil, or_false] at h3
      omega
    · rw [h] at h3
      simp only [Prod.mk.injEq] at h3
      omega
  · have h4 : k < 4 := by
      unfold hk_t at hk
      rw [if_neg (by omega), if_neg (by omega), if_neg (by omega), if_pos (by omega)] at hk
      exact hk
    unfold hk_s at h
    rw [if_neg (by omega), if_neg (by omega), if_neg (by omega), if_pos (by omega)] at h
    split at h
    · simp only [Prod.mk.injEq] at h
      omega
    · simp only [Prod.mk.injEq] at h
      omega
  · unfold hk_s at h
    rw [if_neg (by omega), if_neg (by omega), if_neg (by omega), if_neg (by omega), if_pos (by omega)] at h
    rcases hk_getD (l := hk_Bs (kd - 100) 0) (k := k) (d := (7, 0)) with h3 | h3
    · rw [h] at h3
      by_cases h9 : 103 ≤ kd
      · rcases hk_Bs_r0 (kd - 100) (by omega) _ h3 rfl with h5 | h5
        · exact Or.inl (hk_rg_p h5)
        · exact Or.inr (Or.inr (Or.inl ⟨h9, by omega, h5⟩))
      · exact Or.inl (hk_rg_p (hk_Bs_r2 (kd - 100) (by omega) _ h3 rfl))
    · rw [h] at h3
      simp only [Prod.mk.injEq] at h3
      omega
  · unfold hk_s at h
    rw [if_neg (by omega), if_neg (by omega), if_neg (by omega), if_neg (by omega), if_neg (by omega), if_pos (by omega)] at h
    rcases hk_getD (l := hk_Bs 6 (kd - 110)) (k := k) (d := (7, 0)) with h3 | h3
    · rw [h] at h3
      rcases hk_Bs_r6 (kd - 110) (by omega) _ h3 rfl with h5 | h5
      · exact Or.inl (hk_rg_p h5)
      · have h5 : t = 80 + (kd - 110) := h5
        exact Or.inr (Or.inr (Or.inr ⟨by omega, by omega, by omega⟩))
    · rw [h] at h3
      simp only [Prod.mk.injEq] at h3
      omega
  · unfold hk_s at h
    rw [if_neg (by omega), if_neg (by omega), if_neg (by omega), if_neg (by omega), if_neg (by omega), if_neg (by omega), if_pos (by omega)] at h
    rcases hk_getD (l := hk_Ms (kd - 200)) (k := k) (d := (7, 0)) with h3 | h3
    · rw [h] at h3
      exact Or.inl (hk_rg_p (hk_Ms_r (kd - 200) (by omega) _ h3 rfl))
    · rw [h] at h3
      simp only [Prod.mk.injEq] at h3
      omega
  · rw [hk_sF ho.1] at h
    have := hk_fr ho.1 ho.2 h
    omega
/-- every kind in the world is one of ours -/
def hp_K (κ : Nat → Nat) : Prop := ∀ a : Nat, hk_ok (κ a)
theorem hp_lt {dC : Nat → ClassId} {dI : Nat → Nat → Nat} {dA : Nat → ClassId} {κ : Nat → Nat} {F : hp_F} {H : Heap} {a : Nat} (hV : hp_V κ) (hM : hp_M dC dI dA κ F H) (h : κ a ≠ 0) : a < H.size := by
  have h1 := hM a
  rcases hV a with h0 | h0
  · exact absurd h0 h
  · generalize hk_t (κ a) = q at h1 h0
    obtain ⟨x, y, z⟩ := q
    match x, h0, h1 with
    | 0, h0, _ => exact absurd rfl h0
    | 1, _, h1 => obtain ⟨cell, h2, -⟩ := h1; exact (Array.getElem?_eq_some_iff.mp h2).1
    | n + 2, _, h1 => exact (Array.getElem?_eq_some_iff.mp h1).1
/-- a making's world: kinds, what is unique, what is there -/
def hp_Z (dC : Nat → ClassId) (dI : Nat → Nat → Nat) (dA : Nat → ClassId) (κ : Nat → Nat) (B : Nat) (g : Nat → Nat → Int) (H0 H : Heap) (locs : List Loc) : Prop := hp_W κ B ∧ hp_V κ ∧ hp_K κ ∧ B ≤ H.size ∧ hp_J dC dI dA κ B g H0 H locs
section HPM
variable {dC : Nat → ClassId} {dI : Nat → Nat → Nat} {dA : Nat → ClassId} {κ : Nat → Nat} {B : Nat} {g : Nat → Nat → Int} {H0 H H1 : Heap} {locs : List Loc}
theorem hp_grow {kd : Nat} (hZ : hp_Z dC dI dA κ B g H0 H locs) (V : Nat → Value) (o1 : ∀ q : Nat, q < H.size → H1[q]? = H[q]?) (z1 : H1.size = H.size + 1) (hat : hp_at dC dI dA (hk_t kd) V H.size H1) (hd : ∀ (κ' : Nat → Nat) (k : Nat), k < (hk_t kd).2.2 → hs_ok κ' (g kd k) (hk_s kd k) (V k)) (hkt : (hk_t kd).1 ≠ 0) (hok : hk_ok kd) (hx1 : hk_x kd = true → ∀ a, κ a ≠ kd) : κ H.size = 0 ∧ hp_Z dC dI dA (hp_kk κ H.size kd) B g H0 H1 locs := by
  obtain ⟨hW, hV, hKk, hB, ⟨F, hM, hO⟩, hS⟩ := hZ
  have h0 : κ H.size = 0 := Classical.byContradiction fun h => Nat.lt_irrefl _ (hp_lt hV hM h)
  refine ⟨h0, ⟨fun a ha => ?_, fun a b ha hab => ?_⟩, fun a => ?_, fun a => ?_, by omega, ⟨fun a => if a = H.size then V else F a, fun a => ?_, fun a k hk => ?_⟩, Nat.le_trans hS.1 (by omega), fun q h1 h2 => ?_, hS.2.2⟩
  · by_cases h : a = H.size
    · rw [h]; exact hB
    · rw [hp_kk_n h] at ha
      exact hW.1 a ha
  · by_cases h : a = H.size
    · by_cases h' : b = H.size
      · rw [h, h']
      · rw [h, hp_kk_s, hp_kk_n h'] at hab
        rw [h, hp_kk_s] at ha
        exact absurd hab.symm (hx1 ha b)
    · by_cases h' : b = H.size
      · rw [hp_kk_n h, h', hp_kk_s] at hab
        rw [hp_kk_n h, hab] at ha
        exact absurd hab (hx1 ha a)
      · rw [hp_kk_n h, hp_kk_n h'] at hab
        rw [hp_kk_n h] at ha
        exact hW.2 a b ha hab
  · by_cases h : a = H.size
    · rw [h, hp_kk_s]; exact Or.inr hkt
    · rw [hp_kk_n h]; exact hV a
  · by_cases h : a = H.size
    · rw [h, hp_kk_s]; exact hok
    · rw [hp_kk_n h]; exact hKk a
  · dsimp only
    by_cases h : a = H.size
    · rw [if_pos h, h, hp_kk_s]; exact hat
    · rw [if_neg h, hp_kk_n h]
      by_cases hz : κ a = 0
      · rw [hz]
        exact trivial
      · exact (hM a).kept (o1 a (hp_lt hV hM hz))
  · dsimp only
    by_cases h : a = H.size
    · rw [h, hp_kk_s] at hk
      rw [if_pos h, h, hp_kk_s]
      exact hd _ k hk
    · rw [hp_kk_n h] at hk
      rw [if_neg h, hp_kk_n h]
      refine (hO a k hk).mono (fun h4 b hb => ?_)
      by_cases hbs : b = H.size
      · rw [hbs, h0] at hb
        have h5 := hk_sr (hKk a) (t := (hk_s (κ a) k).2) (by rw [← h4]) hk
        omega
      · rw [hp_kk_n hbs]; exact hb
  · rw [o1 q (Nat.lt_of_lt_of_le h1 hS.1)]
    exact hS.2.1 q h1 h2
/-- a field is set, and what is made goes on to its next kind -/
theorem hp_step {F : hp_F} {h0 k k1 k2 : Nat} {v : Value} (hW : hp_W κ B) (hV : hp_V κ) (hKk : hp_K κ) (hB : B ≤ H.size) (hM : hp_M dC dI dA κ (hp_u F h0 k v) H) (hO : hp_O κ g F) (hS : va_S (hp_A B) H0 H locs) (k0 : κ h0 = k1) (ht : hk_t k2 = hk_t k1) (hok : hk_ok k2) (hkt : (hk_t k2).1 ≠ 0)
    (hnr : ∀ a j : Nat, j < (hk_t (κ a)).2.2 → a ≠ h0 → hk_s (κ a) j ≠ (4, k1)) (hnr0 : ∀ j : Nat, j < (hk_t k2).2.2 → hk_s k2 j ≠ (4, k1)) (hv : hs_ok κ (g k2 k) (hk_s k2 k) v) (hsp : ∀ j : Nat, j ≠ k → j < (hk_t k1).2.2 → ∀ w, hs_ok κ (g k1 j) (hk_s k1 j) w → hs_ok κ (g k2 j) (hk_s k2 j) w) (hx1 : hk_x k2 = true → ∀ a, κ a ≠ k2) : hp_Z dC dI dA (hp_kk κ h0 k2) B g H0 H locs := by
  have h0n : κ h0 ≠ 0 := fun h => by
    rw [k0] at h
    rw [ht, h] at hkt
    exact hkt rfl
  have hmono : ∀ {e : Int} {sp : Nat × Nat} {w : Value}, sp ≠ (4, k1) → hs_ok κ e sp w → hs_ok (hp_kk κ h0 k2) e sp w := by
    intro e sp w hne h
    refine h.mono (fun h4 b hb => ?_)
    by_cases hbs : b = h0
    · rw [hbs, k0] at hb
      exact absurd (Prod.ext h4 hb.symm) hne
    · rw [hp_kk_n hbs]; exact hb
  refine ⟨⟨fun a ha => ?_, fun a b ha hab => ?_⟩, fun a => ?_, fun a => ?_, hB, ⟨hp_u F h0 k v, fun a => ?_, fun a j hj => ?_⟩, hS⟩
  · by_cases h : a = h0
    · rw [h]; exact hW.1 h0 h0n
    · rw [hp_kk_n h] at ha
      exact hW.1 a ha
  · by_cases h : a = h0
    · by_cases h' : b = h0
      · rw [h, h']
      · rw [h, hp_kk_s, hp_kk_n h'] at hab
        rw [h, hp_kk_s] at ha
        exact absurd hab.symm (hx1 ha b)
    · by_cases h' : b = h0
      · rw [hp_kk_n h, h', hp_kk_s] at hab
        rw [hp_kk_n h, hab] at ha
        exact absurd hab (hx1 ha a)
      · rw [hp_kk_n h, hp_kk_n h'] at hab
        rw [hp_kk_n h] at ha
        exact hW.2 a b ha hab
  · by_cases h : a = h0
    · rw [h, hp_kk_s]; exact Or.inr hkt
    · rw [hp_kk_n h]; exact hV a
  · by_cases h : a = h0
    · rw [h, hp_kk_s]; exact hok
    · rw [hp_kk_n h]; exact hKk a
  · by_cases h : a = h0
    · have h9 := hM h0
      rw [k0, ← ht] at h9
      rw [h, hp_kk_s]
      exact h9
    · rw [hp_kk_n h]
      exact hM a
  · by_cases h : a = h0
    · subst h
      rw [hp_kk_s] at hj ⊢
      by_cases hjk : j = k
      · subst hjk
        refine hmono (hnr0 j hj) ?_
        unfold hp_u
        rw [if_pos rfl]
        unfold updV
        rw [if_pos rfl]
        exact hv
      · refine hmono (hnr0 j hj) ?_
        unfold hp_u
        rw [if_pos rfl]
        unfold updV
        rw [if_neg hjk]
        have h9 := hO a j
        rw [k0] at h9
        rw [ht] at hj
        exact hsp j hjk hj _ (h9 hj)
    · rw [hp_kk_n h] at hj ⊢
      refine hmono (hnr a j hj h) ?_
      unfold hp_u
      rw [if_neg h]
      exact hO a j hj
end HPM
end
section
theorem hp_Zeq {dC : Nat → ClassId} {dI : Nat → Nat → Nat} {dA : Nat → ClassId} {κ κ' : Nat → Nat} {B : Nat} {g : Nat → Nat → Int} {H0 H : Heap} {locs : List Loc} (h : κ = κ') (hZ : hp_Z dC dI dA κ B g H0 H locs) : hp_Z dC dI dA κ' B g H0 H locs := h ▸ hZ
/-- the same world in a state: for what makes -/
def hp_T (dC : Nat → ClassId) (dI : Nat → Nat → Nat) (dA : Nat → ClassId) (κ : Nat → Nat) (B : Nat) (g : Nat → Nat → Int) (U : State) : Prop := hp_S dC dI dA κ B g U ∧ hp_V κ ∧ hp_K κ ∧ B ≤ U.heap.size ∧ va_AO RX4 U ∧ va_AO RX2 U
/-- what a making did to the kinds -/
def hp_D (N : Nat → Prop) (κ κ' : Nat → Nat) (h0 kd : Nat) : Prop := κ' h0 = kd ∧ (∀ a : Nat, κ a ≠ 0 → a ≠ h0 → κ' a = κ a) ∧ ∀ a : Nat, κ a = 0 → N (κ' a)
abbrev hp_QT (dC : Nat → ClassId) (dI : Nat → Nat → Nat) (dA : Nat → ClassId) (κ : Nat → Nat) (B : Nat) (g : Nat → Nat → Int) (h0 kd : Nat) (N : Nat → Prop) : Array Value → State → Outcome → State → Prop := va_Qv (fun κ' => hp_D N κ κ' h0 kd) (fun κ' t => hp_T dC dI dA κ' B g t) (hp_A B)
abbrev hp_PT (dC : Nat → ClassId) (dI : Nat → Nat → Nat) (dA : Nat → ClassId) (κ : Nat → Nat) (B : Nat) (g : Nat → Nat → Int) (av : List Value) : Array Value → State → Prop := va_Pc av (hp_T dC dI dA κ B g)
theorem hp_T.of {dC : Nat → ClassId} {dI : Nat → Nat → Nat} {dA : Nat → ClassId} {κ : Nat → Nat} {B : Nat} {g : Nat → Nat → Int} {H0 H : Heap} {locs : List Loc} {s t : State} (hK : va_K (dC, dI) vwCl (hp_ty dA) s) (hN : hp_N s) (hAO : va_AO RX4 s ∧ va_AO RX2 s) (hZ : hp_Z dC dI dA κ B g H0 H locs) (ht : t.heap = H) (hw : s.WarmedH t.vm) : hp_T dC dI dA κ B g t :=
  ⟨hp_S.of hK hN hZ.1 hZ.2.2.2.2 ht hw, hZ.2.1, hZ.2.2.1, by rw [ht]; exact hZ.2.2.2.1, va_AO.moved hw.alike hAO.1, va_AO.moved hw.alike hAO.2⟩
theorem hp_preT {dC : Nat → ClassId} {dI : Nat → Nat → Nat} {dA : Nat → ClassId} {κ : Nat → Nat} {B : Nat} {g : Nat → Nat → Int} {H0 H : Heap} {locs : List Loc} {s : State} (As : List Value) (hK : va_K (dC, dI) vwCl (hp_ty dA) s) (hN : hp_N s) (hAO : va_AO RX4 s ∧ va_AO RX2 s) (hZ : hp_Z dC dI dA κ B g H0 H locs) : PreS s H (hp_PT dC dI dA κ B g As) As :=
  ⟨fun a U f mk h => by
    obtain ⟨h0, ⟨h1, h2, h3, h4⟩, h5, h6, h7, h8, h9⟩ := h
    exact ⟨h0, ⟨va_K.moved (u := U) (U := U.calling f mk a) (Vm.Alike.refl U.vm) h1, hp_N.same rfl h2, h3, h4⟩, h5, h6, h7, va_AO.moved (u := U) (U := U.calling f mk a) (Vm.Alike.refl U.vm) h8, va_AO.moved (u := U) (U := U.calling f mk a) (Vm.Alike.refl U.vm) h9⟩, fun _ hU hw => ⟨rfl, hp_T.of hK hN hAO hZ hU hw⟩⟩
section HPN
variable {p : Program} {l : Launch} {e : Env} {R : Room} {s : State} {m : MethodId} {args : Array Value} {below : List Frame} {meth : Method} {c : Code} {H : Heap} {locs : List Loc} {cells slots : Nat} {Q : State → Prop}
variable {cc : ByteArray} {pc : Nat} {ls : Array Slot} {rest st0 : List Value}
variable {dC : Nat → ClassId} {dI : Nat → Nat → Nat} {dA : Nat → ClassId} {κ : Nat → Nat} {B : Nat} {g : Nat → Nat → Int} {H0 : Heap} {a : Nat}
/-- new of a class -/
theorem hp_newo (hx : p.tables.exec = Jvm.exec) (hb : c.code = cc) {own C : String} {T : u_T} {N ci index : Nat} {Ts : List Cond} (hts : ∀ w ∈ Ts, w.before args s = true) (hin : ∀ w ∈ u_ws C T N, w ∈ Ts) (ty : Nat → FieldType) (hty : ∀ k, k < N → parseFieldDescriptor (T k).2.2.1 = some (ty k)) (hown : s.vm.findClass own = some m.cls) (hcl : (Cond.classLink own index C).before args s = true) (hinst : (Cond.instantiable C N).before args s = true) (hini : (Cond.initialized C).before args s = true)
    (hK : va_K (dC, dI) vwCl (hp_ty dA) s) (hZ : hp_Z dC dI dA κ B g H0 H locs) (hc : vwCl[ci]? = some (C, T, N)) {kd : Nat} (ht : hk_t kd = (1, ci, N)) (hok : hk_ok kd) (hd : ∀ (κ' : Nat → Nat) (k : Nat), k < N → hs_ok κ' (g kd k) (hk_s kd k) (defaultValue (ty k))) (hx1 : hk_x kd = true → ∀ a, κ a ≠ kd) (hcells : cells + 1 ≤ R.cells) (hslots : slots + N ≤ R.slots) (hdg : decode cc pc = .ok (.new index, 3))
    (kk : ∀ (b : Nat) (H1 : Heap), κ b = 0 → hp_Z dC dI dA (hp_kk κ b kd) B g H0 H1 locs → W p l e R s m args below meth c H1 locs (cells + 1) (slots + N) Q (F0 m (pc + 3) ls (.ref b :: rest))) : W p l e R s m args below meth c H locs cells slots Q (F0 m pc ls rest) := by
  have hKn := hK.1 ci _ hc
  refine W.newcK hx hb hown hcl hinst hini rfl hdg hcells hslots hKn.2.1 rfl fun H1 kC hkC e1 z1 o1 => ?_
  obtain ⟨h1, h2⟩ := hp_grow (kd := kd) hZ (fun k => defaultValue (ty k)) o1 z1 (by rw [ht]; exact u_born ty hts hin hKn hkC e1 hty) (fun κ' k hk => hd κ' k (by rw [ht] at hk; exact hk)) (by rw [ht]; simp) hok hx1
  exact kk H.size H1 h1 h2
/-- new of an array of a primitive type -/
theorem hp_newi (hx : p.tables.exec = Jvm.exec) (hb : c.code = cc) {atype : ArrayType} (harr : (Cond.arrayClass (newarray.typeOf atype)).before args s = true) (hK : va_K (dC, dI) vwCl (hp_ty dA) s) (hZ : hp_Z dC dI dA κ B g H0 H locs) {ty N kd : Nat} (hnm : s.vm.findClass ("[" ++ (newarray.typeOf atype).toString) = some (dA ty)) (ht : hk_t kd = (2, ty, N)) (hok : hk_ok kd)
    (hd : ∀ (κ' : Nat → Nat) (k : Nat), k < N → hs_ok κ' (g kd k) (hk_s kd k) (defaultValue (newarray.typeOf atype))) (hx1 : hk_x kd = true → ∀ a, κ a ≠ kd) {n : Int32} (hn : n.toInt = (N : Int)) (hbytes : N * componentBytes (newarray.typeOf atype) ≤ 536870912) (hcells : cells + 1 ≤ R.cells) (hslots : slots + N ≤ R.slots) (hdg : decode cc pc = .ok (.newarray atype, 2))
    (kk : ∀ (b : Nat) (H1 : Heap), κ b = 0 → hp_Z dC dI dA (hp_kk κ b kd) B g H0 H1 locs → W p l e R s m args below meth c H1 locs (cells + 1) (slots + N) Q (F0 m (pc + 2) ls (.ref b :: rest))) : W p l e R s m args below meth c H locs cells slots Q (F0 m pc ls (.int n :: rest)) := by
  have hcl := hi_cl (x := n) (by omega)
  refine va_newaK hx hb harr rfl hdg rfl (hi_nn (by omega)) (N := N) (by omega) hbytes hcells hslots rfl fun H1 cA e1 z1 o1 hAr hNm => ?_
  have hcA : cA = dA ty := Option.some.inj (hNm.symm.trans hnm)
  subst hcA
  obtain ⟨h1, h2⟩ := hp_grow (kd := kd) hZ (fun _ => defaultValue (newarray.typeOf atype)) o1 z1 (by rw [ht]; exact e1) (fun κ' k hk => hd κ' k (by rw [ht] at hk; exact hk)) (by rw [ht]; simp) hok hx1
  exact kk H.size H1 h1 h2
/-- new of an array of references -/
theorem hp_newr (hx : p.tables.exec = Jvm.exec) (hb : c.code = cc) {own C : String} {index : Nat} (hown : s.vm.findClass own = some m.cls) (hclink : (Cond.classLink own index C).before args s = true) (hover : va_AO C s) (hZ : hp_Z dC dI dA κ B g H0 H locs) {ty N kd : Nat} (hnm : s.vm.findClass ("[" ++ (FieldType.object C).toString) = some (dA ty)) (ht : hk_t kd = (2, ty, N)) (hok : hk_ok kd)
    (hd : ∀ (κ' : Nat → Nat) (k : Nat), k < N → hs_ok κ' (g kd k) (hk_s kd k) .null) (hx1 : hk_x kd = true → ∀ a, κ a ≠ kd) {n : Int32} (hn : n.toInt = (N : Int)) (hbytes : N * 4 ≤ 536870912) (hcells : cells + 1 ≤ R.cells) (hslots : slots + N ≤ R.slots) (hdg : decode cc pc = .ok (.anewarray index, 3))
    (kk : ∀ (b : Nat) (H1 : Heap), κ b = 0 → hp_Z dC dI dA (hp_kk κ b kd) B g H0 H1 locs → W p l e R s m args below meth c H1 locs (cells + 1) (slots + N) Q (F0 m (pc + 3) ls (.ref b :: rest))) : W p l e R s m args below meth c H locs cells slots Q (F0 m pc ls (.int n :: rest)) := by
  have hcl := hi_cl (x := n) (by omega)
  have hcn : n.toNatClampNeg = N := by omega
  subst hcn
  refine W.anew hx hb hown hclink (va_AO.use hover) rfl hdg rfl (hi_nn (by omega)) hbytes hcells hslots fun cA kA comp f1 f2 f3 f4 => ?_
  have hcA : cA = dA ty := Option.some.inj (f1.symm.trans hnm)
  subst hcA
  generalize hH1 : H.push ({ cls := dA ty, slots := Array.replicate n.toNatClampNeg .null, vm := .none } : Cell) = H1
  have z1 : H1.size = H.size + 1 := by rw [← hH1, Array.size_push]
  have e1 : H1[H.size]? = some (arrV (dA ty) n.toNatClampNeg (fun _ => .null)) := by rw [← hH1, Array.getElem?_push_size, ← arrV_new]
  have o1 : ∀ q : Nat, q < H.size → H1[q]? = H[q]? := fun q hq => by rw [← hH1, Array.getElem?_push, if_neg (Nat.ne_of_lt hq)]
  obtain ⟨h1, h2⟩ := hp_grow (kd := kd) hZ (fun _ => .null) o1 z1 (by rw [ht]; exact e1) (fun κ' k hk => hd κ' k (by rw [ht] at hk; exact hk)) (by rw [ht]; simp) hok hx1
  exact kk H.size H1 h1 h2
/-- behind a constructor of ours -/
theorem hp_callT {mc ms h0 kd : Nat} {Nn : Nat → Prop} {av : Array Value} (hr : va_Run p l e R s m args below meth c H locs cells slots mc ms (F0 m pc ls st0) rest (hp_QT dC dI dA κ B g h0 kd Nn av) (hp_A B)) (hZ : hp_Z dC dI dA κ B g H0 H locs)
    (kk : ∀ (κ' : Nat → Nat) (H1 : Heap) (locs1 : List Loc), hp_D Nn κ κ' h0 kd → hp_Z dC dI dA κ' B g H0 H1 locs1 → W p l e R s m args below meth c H1 locs1 (cells + mc) (slots + ms) Q (F0 m (pc + 3) ls (rest))) : W p l e R s m args below meth c H locs cells slots Q (F0 m pc ls (st0)) :=
  va_callv hr hZ.2.2.2.2.2 (fun _ _ h => h) (fun _ h => h) (fun u t H1 locs1 ht hvm hp hb' _ _ hS => kk u H1 locs1 hp ⟨hb'.1.2.2.1, hb'.2.1, hb'.2.2.1, by rw [← ht]; exact hb'.2.2.2.1, by obtain ⟨⟨-, -, -, h⟩, -⟩ := hb'; rw [ht] at h; exact h, hS⟩)
theorem hp_Tret (hx : p.tables.exec = Jvm.exec) (hb : c.code = cc) {κ' : Nat → Nat} (hK : va_K (dC, dI) vwCl (hp_ty dA) s) (hN : hp_N s) (hAO : va_AO RX4 s ∧ va_AO RX2 s) (hlocks : meth.locks = false) (hZ : hp_Z dC dI dA κ' B g s.heap H locs) (hr : meth.sig.returnType = none) {h0 kd : Nat} {Nn : Nat → Prop} (hD : hp_D Nn κ κ' h0 kd) (hdg : decode cc pc = .ok (.return_, 1)) : W p l e R s m args below meth c H locs cells slots (MQ below (hp_QT dC dI dA κ B g h0 kd Nn) args s cells slots (hp_A B)) (F0 m pc ls []) :=
  W.vret hx hb hr (fun t ht hw => ⟨⟨κ', rfl, hD, hp_T.of hK hN hAO hZ ht hw⟩, hZ.2.2.2.2.2.F ht⟩) hZ.2.2.2.2.2.2.2 hdg hlocks
end HPN
def hp_EN (N : Nat → Prop) (κ κi : Nat → Nat) (h0 b : Nat) : Prop := (∀ a : Nat, κ a ≠ 0 → a ≠ h0 → κi a = κ a) ∧ ∀ a : Nat, κ a = 0 → a = b ∨ N (κi a)
theorem en_rf {N : Nat → Prop} {κ : Nat → Nat} {h0 : Nat} (h0N : N 0) : hp_EN N κ κ h0 h0 := ⟨fun _ _ _ => rfl, fun _ h => Or.inr (by rw [h]; exact h0N)⟩
theorem en_new {N : Nat → Prop} {κ κi : Nat → Nat} {h0 b kd : Nat} (h : hp_EN N κ κi h0 h0) (hb : κi b = 0) (hk : N kd) : hp_EN N κ (hp_kk κi b kd) h0 h0 := by
  refine ⟨fun a h1 h2 => ?_, fun a h1 => ?_⟩
  · rw [hp_kk_n (fun e => h1 (by rw [← h.1 a h1 h2, e, hb]))]
    exact h.1 a h1 h2
  · by_cases e : a = b
    · rw [e, hp_kk_s]; exact Or.inr hk
    · rw [hp_kk_n e]; exact h.2 a h1
theorem en_raw {N : Nat → Prop} {κ κi : Nat → Nat} {h0 b kd : Nat} (h : hp_EN N κ κi h0 h0) (h0n : κ h0 ≠ 0) (hb : κi b = 0) : hp_EN N κ (hp_kk κi b kd) h0 b := by
  refine ⟨fun a h1 h2 => ?_, fun a h1 => ?_⟩
  · rw [hp_kk_n (fun e => h1 (by rw [← h.1 a h1 h2, e, hb]))]
    exact h.1 a h1 h2
  · by_cases e : a = b
    · exact Or.inl e
    · rw [hp_kk_n e]
      rcases h.2 a h1 with h3 | h3
      · rw [h3] at h1; exact absurd h1 h0n
      · exact Or.inr h3
theorem en_step {N : Nat → Prop} {κ κi : Nat → Nat} {h0 b k2 : Nat} (h : hp_EN N κ κi h0 b) (h0n : κ h0 ≠ 0) : hp_EN N κ (hp_kk κi h0 k2) h0 b := by
  refine ⟨fun a h1 h2 => ?_, fun a h1 => ?_⟩
  · rw [hp_kk_n h2]
    exact h.1 a h1 h2
  · rw [hp_kk_n (fun e => h0n (by rw [← e]; exact h1))]
    exact h.2 a h1
theorem en_call {N N' : Nat → Prop} {κ κi κ' : Nat → Nat} {h0 b kd : Nat} (h : hp_EN N κ κi h0 b) (hb : κ b = 0) (hD : hp_D N' κi κ' b kd) (hk : N kd) (hN : ∀ n, N' n → N n) : hp_EN N κ κ' h0 h0 := by
  refine ⟨fun a h1 h2 => ?_, fun a h1 => ?_⟩
  · have h3 := h.1 a h1 h2
    rw [hD.2.1 a (by rw [h3]; exact h1) (fun e => h1 (by rw [e]; exact hb))]
    exact h3
  · by_cases e : a = b
    · rw [e, hD.1]; exact Or.inr hk
    · rcases h.2 a h1 with h3 | h3
      · exact absurd h3 e
      · by_cases hz : κi a = 0
        · exact Or.inr (hN _ (hD.2.2 a hz))
        · rw [hD.2.1 a hz e]; exact Or.inr h3
theorem en_D {N : Nat → Prop} {κ κi : Nat → Nat} {h0 kd : Nat} (h : hp_EN N κ κi h0 h0) (h0n : κ h0 ≠ 0) (hk : κi h0 = kd) : hp_D N κ κi h0 kd :=
  ⟨hk, h.1, fun a ha => (h.2 a ha).elim (fun e => absurd (by rw [← e]; exact ha) h0n) id⟩
theorem en_b {N : Nat → Prop} {κ κi : Nat → Nat} {h0 b : Nat} (h : hp_EN N κ κi h0 h0) (hb : κi b = 0) (hbh : b ≠ h0) : κ b = 0 := Classical.byContradiction fun h1 => h1 (by rw [← h.1 b h1 hbh, hb])
theorem ne_k {κ : Nat → Nat} {a b n : Nat} (ha : κ a = n) (hb : κ b = 0) (hn : n ≠ 0) : a ≠ b := fun e => hn (by rw [← ha, e, hb])
/-- nothing of a kind was there, and nothing of it came -/
theorem en_no {N : Nat → Prop} {κ κi : Nat → Nat} {h0 b n : Nat} (h : hp_EN N κ κi h0 b) (hn : ∀ a, κ a ≠ n) (hN : ¬ N n) (h0k : κi h0 ≠ n) (hbk : κi b ≠ n) : ∀ a, κi a ≠ n := by
  intro a ha
  by_cases hah : a = h0
  · rw [hah] at ha; exact h0k ha
  · by_cases hz : κ a = 0
    · rcases h.2 a hz with h3 | h3
      · rw [h3] at ha; exact hbk ha
      · rw [ha] at h3; exact hN h3
    · exact hn a (by rw [← h.1 a hz hah]; exact ha)
end
section
theorem iX0_init_X0 : ∀ w ∈ wsX00, w ∈ wsX0_init := fun _ h => List.mem_cons_of_mem _ (List.mem_append_right _ h)
set_option maxRecDepth 100000 in
set_option maxHeartbeats 4000000 in
theorem c_X0_init (l : Launch) (dC : Nat → ClassId) (dI : Nat → Nat → Nat) (dA : Nat → ClassId) (κ : Nat → Nat) (B : Nat) (g : Nat → Nat → Int) (h0 : Nat) (k0 : κ h0 = 31) (q : Nat) (hq : q < 14) (hu : ∀ a, κ a ≠ 340 + q ∧ κ a ≠ 360 + q) : Met l yX0_init wsX0_init ({ frames := 2, cells := 2, slots := 429, locals := 43 } : Room) (hp_PT dC dI dA κ B g [.ref h0]) (hp_QT dC dI dA κ B g h0 (320 + q) (fun n => n = 0 ∨ n = 340 + q ∨ n = 360 + q)) 2 429 (hp_A B) := by
  refine Met.ofW (cc := cX0_init) (maxL := 1) (ret := none) (by decide) rfl ?_
  intro p e s m args below meth c s₁ Bd hml hv
  obtain ⟨rfl, ⟨hK, hN, hW, hF⟩, hV, hKk, hBz, hAO⟩ := hv
  have hx := Bd.exec
  have hb := Bd.bytes
  have hr := Bd.returns
  have hts := atoms_spec (ws := wsX0_init) Bd.pre
  have hown : s.vm.findClass RX0 = some m.cls := findClass_of_methodNamed Bd.named
  have hlocks := Bd.notSynchronized
  have hin : meth.name = "<init>" := (name_of_methodNamed Bd.named Bd.method).1
  have hZ : hp_Z dC dI dA κ B g s.heap s.heap [] := ⟨hW, hV, hKk, hBz, hF, va_S.rf⟩
  have hl := lv_entry ([Value.ref h0]) (n := 1) (Nat.le_of_ble_eq_true rfl)
  rw [lg_entry_eq]
  generalize (lg_sl ([Value.ref h0]) ++ List.replicate (1 - (lg_sl ([Value.ref h0])).length) Slot.unset).toArray = ls at hl ⊢
  have hl : lv_has ls 1 [(0, .ref h0)] := hl
  have hE : hp_EN (fun n => n = 0 ∨ n = 340 + q ∨ n = 360 + q) κ κ h0 h0 := en_rf (show 0 = 0 ∨ 0 = 340 + q ∨ 0 = 360 + q from by omega)
  have h0n : κ h0 ≠ 0 := by rw [k0]; omega
  refine lv_aload_n hx hb dX0_init_0 rfl (lv_at hl 0 rfl) ?_
  refine W.objInit hx hb hown (hts (.methodLink RX0 3 objectInit) (List.mem_of_getElem? (i := 1) rfl)) (hts (.instanceMethod objectInit) (List.mem_of_getElem? (i := 2) rfl)) (hts (.code objectInit ⟨#[0xb1]⟩ 1 none) (List.mem_of_getElem? (i := 3) rfl)) rfl (by rw [hml]; exact hl.1) rfl dX0_init_1 (Nat.le_of_ble_eq_true rfl) (Nat.le_of_ble_eq_true rfl) ?_
  have nu4 : ∀ a, κ a ≠ 340 + q := fun a => (hu a).1
  have nu6 : ∀ a, κ a ≠ 360 + q := fun a => (hu a).2
  refine lv_aload_n hx hb dX0_init_4 rfl (lv_at hl 0 rfl) ?_
  refine hq_bipush hx hb dX0_init_5 (by decide) (fun z1 ez1 => ?_)
  refine hp_newi (atype := .int) (ty := 0) (N := 9) (kd := 340 + q) hx hb (hts (.arrayClass .int) (List.mem_of_getElem? (i := 4) rfl)) hK hZ (hK.2 0 _ rfl).2 (hk_t340 (by omega)) (by unfold hk_ok; omega) (fun _ k hk => by rw [hk_s340 (by omega)]; split <;> exact ⟨0, rfl, by decide, by decide⟩) (fun _ => nu4) (by omega) (by show 9 * 4 ≤ 536870912; omega) (by show 0 + 1 ≤ 2; omega) (by show 0 + 9 ≤ 429; omega) dX0_init_7 (fun b2 H zb2 hZ => ?_)
  refine W.cs (cells' := 1) (slots' := 9) (by omega) (by omega) ?_
  obtain ⟨κ3, eκ3⟩ : ∃ z, z = hp_kk κ b2 (340 + q) := ⟨_, rfl⟩
  rw [← eκ3] at hZ
  have k4 : κ3 h0 = 31 := by rw [eκ3, hp_kk_n (ne_k k0 zb2 (by omega))]; exact k0
  have k5 : κ3 b2 = 340 + q := by rw [eκ3]; exact hp_kk_s _ _ _
  have hE : hp_EN (fun n => n = 0 ∨ n = 340 + q ∨ n = 360 + q) κ κ3 h0 h0 := by rw [eκ3]; exact en_new hE zb2 (show (340 + q) = 0 ∨ (340 + q) = 340 + q ∨ (340 + q) = 360 + q from by omega)
  have nu6 : ∀ a, κ3 a ≠ 360 + q := fun a h => by
    by_cases e9 : a = b2
    · rw [e9, k5] at h; omega
    · rw [eκ3, hp_kk_n e9] at h; exact nu6 a h
  refine hp_putF (C := RX0) (T := TX0) (N := 2) (ci := 0) (kd := 31) hx hb hts iX0_init_X0 hown hK hZ.2.2.2.2 k4 (rfl : hk_t 31 = (1, 0, 2)) rfl 0 (by decide) (hts (.fieldLink RX0 9 "NeighborBook$Contents" "sizes" "[I") (List.mem_of_getElem? (i := 5) rfl)) (fun _ h9 => h9) tyX0 tyX0_ok nmX0 (v := .ref b2) rfl rfl (by omega) hZ.1 rfl hin rfl dX0_init_9 (fun F H locs hM hO hS => ?_)
  have hZ := hp_step (k1 := 31) (k2 := 380 + q) hZ.1 hZ.2.1 hZ.2.2.1 (Nat.le_trans hBz hS.1) hM hO hS k4 ((hk_t380 (q := q)).trans (rfl : hk_t 31 = (1, 0, 2)).symm) (by unfold hk_ok; omega) (by rw [(hk_t380 (q := q))]; decide) (fun a j hj _ h => by have := hk_sr (hZ.2.2.1 a) h hj; omega) (fun j hj h => by have := hk_sr (kd := 380 + q) (by unfold hk_ok; omega) h hj; omega) (by rw [hk_s380 (q := q) 0]; exact ⟨b2, rfl, k5⟩) (fun j hj hl w hw => by
        have hl : j < 2 := by rw [(rfl : hk_t 31 = (1, 0, 2))] at hl; exact hl
        match j, hj, hl, hw with
        | 1, _, _, hw => rw [hk_s380 (q := q) 1]; exact hw
        | 0, hj, _, _ => exact absurd rfl hj) (fun h => by rw [hk_x380] at h; cases h)
  obtain ⟨κ6, eκ6⟩ : ∃ z, z = hp_kk κ3 h0 (380 + q) := ⟨_, rfl⟩
  rw [← eκ6] at hZ
  have k7 : κ6 b2 = 340 + q := by rw [eκ6, hp_kk_n (fun h9 => by rw [h9, k4] at k5; omega)]; exact k5
  have k8 : κ6 h0 = 380 + q := by rw [eκ6]; exact hp_kk_s _ _ _
  have nu6 : ∀ a, κ6 a ≠ 360 + q := fun a h => by
    by_cases e9 : a = h0
    · rw [e9, k8] at h; omega
    · rw [eκ6, hp_kk_n e9] at h; exact nu6 a h
  have hE : hp_EN (fun n => n = 0 ∨ n = 340 + q ∨ n = 360 + q) κ κ6 h0 h0 := by rw [eκ6]; exact en_step hE h0n
  refine lv_aload_n hx hb dX0_init_12 rfl (lv_at hl 0 rfl) ?_
  refine hq_sipush hx hb dX0_init_13 (by decide) (fun z9 ez9 => ?_)
  refine hp_newi (atype := .byte) (ty := 1) (N := 420) (kd := 360 + q) hx hb (hts (.arrayClass .byte) (List.mem_of_getElem? (i := 6) rfl)) hK hZ (hK.2 1 _ rfl).2 (hk_t360 (by omega)) (by unfold hk_ok; omega) (fun _ k hk => by rw [hk_s360 (by omega)]; exact ⟨0, rfl, by decide, by decide⟩) (fun _ => nu6) (by omega) (by show 420 * 1 ≤ 536870912; omega) (by show 1 + 1 ≤ 2; omega) (by show 9 + 420 ≤ 429; omega) dX0_init_16 (fun b10 H zb10 hZ => ?_)
  refine W.cs (cells' := 2) (slots' := 429) (by omega) (by omega) ?_
  obtain ⟨κ11, eκ11⟩ : ∃ z, z = hp_kk κ6 b10 (360 + q) := ⟨_, rfl⟩
  rw [← eκ11] at hZ
  have k12 : κ11 h0 = 380 + q := by rw [eκ11, hp_kk_n (ne_k k8 zb10 (by omega))]; exact k8
  have k13 : κ11 b2 = 340 + q := by rw [eκ11, hp_kk_n (ne_k k7 zb10 (by omega))]; exact k7
  have k14 : κ11 b10 = 360 + q := by rw [eκ11]; exact hp_kk_s _ _ _
  have hE : hp_EN (fun n => n = 0 ∨ n = 340 + q ∨ n = 360 + q) κ κ11 h0 h0 := by rw [eκ11]; exact en_new hE zb10 (show (360 + q) = 0 ∨ (360 + q) = 340 + q ∨ (360 + q) = 360 + q from by omega)
  refine hp_putF (C := RX0) (T := TX0) (N := 2) (ci := 0) (kd := 380 + q) hx hb hts iX0_init_X0 hown hK hZ.2.2.2.2 k12 (hk_t380 (q := q)) rfl 1 (by decide) (hts (.fieldLink RX0 15 "NeighborBook$Contents" "bytes" "[B") (List.mem_of_getElem? (i := 7) rfl)) (fun _ h9 => h9) tyX0 tyX0_ok nmX0 (v := .ref b10) rfl rfl (by omega) hZ.1 rfl hin rfl dX0_init_18 (fun F H locs hM hO hS => ?_)
  have hZ := hp_step (k1 := 380 + q) (k2 := 320 + q) hZ.1 hZ.2.1 hZ.2.2.1 (Nat.le_trans hBz hS.1) hM hO hS k12 ((hk_t320 (q := q) (by omega)).trans (hk_t380 (q := q)).symm) (by unfold hk_ok; omega) (by rw [(hk_t320 (q := q) (by omega))]; decide) (fun a j hj _ h => by have := hk_sr (hZ.2.2.1 a) h hj; omega) (fun j hj h => by have := hk_sr (kd := 320 + q) (by unfold hk_ok; omega) h hj; omega) (by rw [hk_s320 (q := q) (by omega) 1]; exact ⟨b10, rfl, k14⟩) (fun j hj hl w hw => by
        have hl : j < 2 := by rw [(hk_t380 (q := q))] at hl; exact hl
        match j, hj, hl, hw with
        | 0, _, _, hw => rw [hk_s380 (q := q) 0] at hw; rw [hk_s320 (q := q) (by omega) 0]; exact hw
        | 1, hj, _, _ => exact absurd rfl hj) (fun h => by rw [hk_x320 (by omega)] at h; cases h)
  obtain ⟨κ15, eκ15⟩ : ∃ z, z = hp_kk κ11 h0 (320 + q) := ⟨_, rfl⟩
  rw [← eκ15] at hZ
  have k16 : κ15 b2 = 340 + q := by rw [eκ15, hp_kk_n (fun h9 => by rw [h9, k12] at k13; omega)]; exact k13
  have k17 : κ15 b10 = 360 + q := by rw [eκ15, hp_kk_n (fun h9 => by rw [h9, k12] at k14; omega)]; exact k14
  have k18 : κ15 h0 = 320 + q := by rw [eκ15]; exact hp_kk_s _ _ _
  have hE : hp_EN (fun n => n = 0 ∨ n = 340 + q ∨ n = 360 + q) κ κ15 h0 h0 := by rw [eκ15]; exact en_step hE h0n
  refine lv_aload_n hx hb dX0_init_21 rfl (lv_at hl 0 rfl) ?_
  refine hp_callv (va_runV (As := []) (rest := []) ⟨hx, hb, hml, hown, hts⟩ (c_X0_clear l dC dI dA κ15 B g q (by omega) h0 k18) (cwV 0 hts gX0_init_X0_clear rfl rfl rfl (by decide +kernel) ⟨Nat.le_of_ble_eq_true rfl, Nat.le_of_ble_eq_true rfl⟩) (hp_preV (q := (RX0, TX0, 2)) [] hK hN hZ.1 hZ.2.2.2.2 k18 (hk_t320 (by omega)) rfl) rfl rfl hl.1 rfl (lv_room (Nat.le_of_ble_eq_true rfl)) dX0_init_22 ⟨(by show 2 + 0 ≤ 2; omega), (by show 429 + 0 ≤ 429; omega)⟩) hZ.2.2.2.2 (fun g9 H locs hp hJ => ?_)
  subst hp
  have hZ := (⟨hZ.1, hZ.2.1, hZ.2.2.1, Nat.le_trans hBz hJ.2.1, hJ⟩ : hp_Z dC dI dA _ B g s.heap H locs)
  exact hp_Tret hx hb hK hN hAO hlocks hZ hr (en_D hE h0n k18) dX0_init_25
theorem iX2_init_X0 : ∀ w ∈ wsX00, w ∈ wsX2_init := fun _ h => List.mem_cons_of_mem _ (List.mem_append_left _ (List.mem_append_right _ h))
theorem iX2_init_X2 : ∀ w ∈ wsX20, w ∈ wsX2_init := fun _ h => List.mem_cons_of_mem _ (List.mem_append_right _ h)
set_option maxRecDepth 100000 in
set_option maxHeartbeats 4000000 in
theorem c_X2_init (l : Launch) (dC : Nat → ClassId) (dI : Nat → Nat → Nat) (dA : Nat → ClassId) (κ : Nat → Nat) (B : Nat) (g : Nat → Nat → Int) (h0 : Nat) (k0 : κ h0 = 36) (q : Nat) (hq : q < 12) (hu : ∀ a, κ a ≠ 300 + q ∧ κ a ≠ 340 + q ∧ κ a ≠ 360 + q) : Met l yX2_init wsX2_init ({ frames := 3, cells := 3, slots := 431, locals := 63 } : Room) (hp_PT dC dI dA κ B g [.ref h0]) (hp_QT dC dI dA κ B g h0 (300 + q) (fun n => n = 0 ∨ n = 320 + q ∨ n = 340 + q ∨ n = 360 + q)) 3 431 (hp_A B) := by
  refine Met.ofW (cc := cX2_init) (maxL := 1) (ret := none) (by decide) rfl ?_
  intro p e s m args below meth c s₁ Bd hml hv
  obtain ⟨rfl, ⟨hK, hN, hW, hF⟩, hV, hKk, hBz, hAO⟩ := hv
  have hx := Bd.exec
  have hb := Bd.bytes
  have hr := Bd.returns
  have hts := atoms_spec (ws := wsX2_init) Bd.pre
  have hown : s.vm.findClass RX2 = some m.cls := findClass_of_methodNamed Bd.named
  have hlocks := Bd.notSynchronized
  have hin : meth.name = "<init>" := (name_of_methodNamed Bd.named Bd.method).1
  have hZ : hp_Z dC dI dA κ B g s.heap s.heap [] := ⟨hW, hV, hKk, hBz, hF, va_S.rf⟩
  have hl := lv_entry ([Value.ref h0]) (n := 1) (Nat.le_of_ble_eq_true rfl)
  rw [lg_entry_eq]
  generalize (lg_sl ([Value.ref h0]) ++ List.replicate (1 - (lg_sl ([Value.ref h0])).length) Slot.unset).toArray = ls at hl ⊢
  have hl : lv_has ls 1 [(0, .ref h0)] := hl
  have hE : hp_EN (fun n => n = 0 ∨ n = 320 + q ∨ n = 340 + q ∨ n = 360 + q) κ κ h0 h0 := en_rf (show 0 = 0 ∨ 0 = 320 + q ∨ 0 = 340 + q ∨ 0 = 360 + q from by omega)
  have h0n : κ h0 ≠ 0 := by rw [k0]; omega
  refine lv_aload_n hx hb dX2_init_0 rfl (lv_at hl 0 rfl) ?_
  refine W.objInit hx hb hown (hts (.methodLink RX2 3 objectInit) (List.mem_of_getElem? (i := 1) rfl)) (hts (.instanceMethod objectInit) (List.mem_of_getElem? (i := 2) rfl)) (hts (.code objectInit ⟨#[0xb1]⟩ 1 none) (List.mem_of_getElem? (i := 3) rfl)) rfl (by rw [hml]; exact hl.1) rfl dX2_init_1 (Nat.le_of_ble_eq_true rfl) (Nat.le_of_ble_eq_true rfl) ?_
  have nu3 : ∀ a, κ a ≠ 300 + q := fun a => (hu a).1
  have nu4 : ∀ a, κ a ≠ 340 + q := fun a => (hu a).2.1
  have nu6 : ∀ a, κ a ≠ 360 + q := fun a => (hu a).2.2
  refine lv_aload_n hx hb dX2_init_4 rfl (lv_at hl 0 rfl) ?_
  refine hp_newo (C := RX0) (T := TX0) (N := 2) (ci := 0) (kd := 31) hx hb hts iX2_init_X0 tyX0 tyX0_ok hown (hts (.classLink RX2 9 RX0) (List.mem_of_getElem? (i := 4) rfl)) (hts (.instantiable RX0 2) (List.mem_of_getElem? (i := 5) rfl)) (hts (.initialized RX0) (List.mem_of_getElem? (i := 6) rfl)) hK hZ rfl rfl (by unfold hk_ok; omega) (fun _ k hk => by match k, hk with | 0, _ => exact trivial | 1, _ => exact trivial) (fun h => absurd h (by decide)) (by show 0 + 1 ≤ 3; omega) (by show 0 + 2 ≤ 431; omega) dX2_init_5 (fun b1 H zb1 hZ => ?_)
  refine W.cs (cells' := 1) (slots' := 2) (by omega) (by omega) ?_
  have yb1 : κ b1 = 0 := en_b hE zb1 (ne_k k0 zb1 (by omega)).symm
  obtain ⟨κ2, eκ2⟩ : ∃ z, z = hp_kk κ b1 (31) := ⟨_, rfl⟩
  rw [← eκ2] at hZ
  have k3 : κ2 h0 = 36 := by rw [eκ2, hp_kk_n (ne_k k0 zb1 (by omega))]; exact k0
  have k4 : κ2 b1 = 31 := by rw [eκ2]; exact hp_kk_s _ _ _
  have hE : hp_EN (fun n => n = 0 ∨ n = 320 + q ∨ n = 340 + q ∨ n = 360 + q) κ κ2 h0 b1 := by rw [eκ2]; exact en_raw hE h0n zb1
  have nu3 : ∀ a, κ2 a ≠ 300 + q := fun a h => by
    by_cases e9 : a = b1
    · rw [e9, k4] at h; omega
    · rw [eκ2, hp_kk_n e9] at h; exact nu3 a h
  have nu4 : ∀ a, κ2 a ≠ 340 + q := fun a h => by
    by_cases e9 : a = b1
    · rw [e9, k4] at h; omega
    · rw [eκ2, hp_kk_n e9] at h; exact nu4 a h
  have nu6 : ∀ a, κ2 a ≠ 360 + q := fun a h => by
    by_cases e9 : a = b1
    · rw [e9, k4] at h; omega
    · rw [eκ2, hp_kk_n e9] at h; exact nu6 a h
  refine lv_dup hx hb dX2_init_8 rfl ?_
  refine hp_callT (va_runI (As := []) (rest := [.ref b1, .ref h0]) ⟨hx, hb, hml, hown, hts⟩ (c_X0_init l dC dI dA κ2 B g b1 k4 q (by omega) (fun a => ⟨nu4 a, nu6 a⟩)) (cwI 0 hts gX2_init_X0_init rfl rfl rfl (hts (.initialized RX0) (List.mem_of_getElem? (i := 6) rfl)) (hts (.methodLink RX2 11 yX0_init) (List.mem_of_getElem? (i := 8) rfl)) (hts (.instanceMethod yX0_init) (List.mem_of_getElem? (i := 9) rfl)) rfl (by decide +kernel) ⟨Nat.le_of_ble_eq_true rfl, Nat.le_of_ble_eq_true rfl⟩) (hp_preT [.ref b1] hK hN hAO hZ) rfl rfl hl.1 rfl (lv_room (Nat.le_of_ble_eq_true rfl)) dX2_init_9 ⟨(by show 1 + 2 ≤ 3; omega), (by show 2 + 429 ≤ 431; omega)⟩) hZ (fun κ5 H locs hDκ5 hZ => ?_)
  refine W.cs (cells' := 3) (slots' := 431) (by omega) (by omega) ?_
  have k6 : κ5 h0 = 36 := (hDκ5.2.1 h0 (by rw [k3]; omega) (fun h9 => by rw [h9, k4] at k3; omega)).trans k3
  have nu3 : ∀ a, κ5 a ≠ 300 + q := fun a h => by
    by_cases e9 : a = b1
    · rw [e9, hDκ5.1] at h; omega
    · by_cases hz9 : κ2 a = 0
      · have h8 : (κ5 a) = 0 ∨ (κ5 a) = 340 + q ∨ (κ5 a) = 360 + q := hDκ5.2.2 a hz9
        omega
      · rw [hDκ5.2.1 a hz9 e9] at h; exact nu3 a h
  have k7 : κ5 b1 = 320 + q := hDκ5.1
  have hE : hp_EN (fun n => n = 0 ∨ n = 320 + q ∨ n = 340 + q ∨ n = 360 + q) κ κ5 h0 h0 := en_call hE yb1 hDκ5 (show (320 + q) = 0 ∨ (320 + q) = 320 + q ∨ (320 + q) = 340 + q ∨ (320 + q) = 360 + q from by omega) (fun n h9 => by have h9 : n = 0 ∨ n = 340 + q ∨ n = 360 + q := h9; show n = 0 ∨ n = 320 + q ∨ n = 340 + q ∨ n = 360 + q; omega)
  refine hp_putv (C := RX2) (T := TX2) (N := 4) (ci := 2) (kd := 36) hx hb hts iX2_init_X2 hown hK hZ.2.2.2.2 k6 (rfl : hk_t 36 = (1, 2, 4)) rfl 0 (by decide) (hts (.fieldLink RX2 12 "NeighborBook$Neighbor" "contents" "LNeighborBook$Contents;") (List.mem_of_getElem? (i := 7) rfl)) (fun _ h9 => h9) tyX2 tyX2_ok nmX2 (v := .ref b1) rfl rfl (by omega) hZ.1 rfl dX2_init_12 (fun F H locs hM hO hS => ?_)
  have hZ := hp_step (k1 := 36) (k2 := 300 + q) hZ.1 hZ.2.1 hZ.2.2.1 (Nat.le_trans hBz hS.1) hM hO hS k6 ((hk_t300 (q := q) (by omega)).trans (rfl : hk_t 36 = (1, 2, 4)).symm) (by unfold hk_ok; omega) (by rw [(hk_t300 (q := q) (by omega))]; decide) (fun a j hj _ h => by have := hk_sr (hZ.2.2.1 a) h hj; omega) (fun j hj h => by have := hk_sr (kd := 300 + q) (by unfold hk_ok; omega) h hj; omega) (by rw [hk_s300 (q := q) (by omega) 0]; exact ⟨b1, rfl, k7⟩) (fun j hj hl w hw => by
        have hl : j < 4 := by rw [(rfl : hk_t 36 = (1, 2, 4))] at hl; exact hl
        match j, hj, hl, hw with
        | 1, _, _, hw => rw [hk_s300 (q := q) (by omega) 1]; exact hw
        | 2, _, _, hw => rw [hk_s300 (q := q) (by omega) 2]; exact hw
        | 3, _, _, hw => rw [hk_s300 (q := q) (by omega) 3]; exact hw
        | 0, hj, _, _ => exact absurd rfl hj) (fun _ => nu3)
  obtain ⟨κ8, eκ8⟩ : ∃ z, z = hp_kk κ5 h0 (300 + q) := ⟨_, rfl⟩
  rw [← eκ8] at hZ
  have k9 : κ8 b1 = 320 + q := by rw [eκ8, hp_kk_n (fun h9 => by rw [h9, k6] at k7; omega)]; exact k7
  have k10 : κ8 h0 = 300 + q := by rw [eκ8]; exact hp_kk_s _ _ _
  have hE : hp_EN (fun n => n = 0 ∨ n = 320 + q ∨ n = 340 + q ∨ n = 360 + q) κ κ8 h0 h0 := by rw [eκ8]; exact en_step hE h0n
  exact hp_Tret hx hb hK hN hAO hlocks hZ hr (en_D hE h0n k10) dX2_init_15
theorem iX1_init_X0 : ∀ w ∈ wsX00, w ∈ wsX1_init := fun _ h => List.mem_cons_of_mem _ (List.mem_append_left _ (List.mem_append_right _ h))
theorem iX1_init_X1 : ∀ w ∈ wsX10, w ∈ wsX1_init := fun _ h => List.mem_cons_of_mem _ (List.mem_append_right _ h)
set_option maxRecDepth 100000 in
set_option maxHeartbeats 4000000 in
theorem c_X1_init (l : Launch) (dC : Nat → ClassId) (dI : Nat → Nat → Nat) (dA : Nat → ClassId) (κ : Nat → Nat) (B : Nat) (g : Nat → Nat → Int) (h0 : Nat) (k0 : κ h0 = 33) (hu : ∀ a, κ a ≠ 3 ∧ κ a ≠ 352 ∧ κ a ≠ 372) : Met l yX1_init wsX1_init ({ frames := 3, cells := 3, slots := 431, locals := 63 } : Room) (hp_PT dC dI dA κ B g [.ref h0]) (hp_QT dC dI dA κ B g h0 (3) (fun n => n = 0 ∨ n = 320 + 12 ∨ n = 340 + 12 ∨ n = 360 + 12)) 3 431 (hp_A B) := by
  refine Met.ofW (cc := cX1_init) (maxL := 1) (ret := none) (by decide) rfl ?_
  intro p e s m args below meth c s₁ Bd hml hv
  obtain ⟨rfl, ⟨hK, hN, hW, hF⟩, hV, hKk, hBz, hAO⟩ := hv
  have hx := Bd.exec
  have hb := Bd.bytes
  have hr := Bd.returns
  have hts := atoms_spec (ws := wsX1_init) Bd.pre
  have hown : s.vm.findClass RX1 = some m.cls := findClass_of_methodNamed Bd.named
  have hlocks := Bd.notSynchronized
  have hin : meth.name = "<init>" := (name_of_methodNamed Bd.named Bd.method).1
  have hZ : hp_Z dC dI dA κ B g s.heap s.heap [] := ⟨hW, hV, hKk, hBz, hF, va_S.rf⟩
  have hl := lv_entry ([Value.ref h0]) (n := 1) (Nat.le_of_ble_eq_true rfl)
  rw [lg_entry_eq]
  generalize (lg_sl ([Value.ref h0]) ++ List.replicate (1 - (lg_sl ([Value.ref h0])).length) Slot.unset).toArray = ls at hl ⊢
  have hl : lv_has ls 1 [(0, .ref h0)] := hl
  have hE : hp_EN (fun n => n = 0 ∨ n = 320 + 12 ∨ n = 340 + 12 ∨ n = 360 + 12) κ κ h0 h0 := en_rf (show 0 = 0 ∨ 0 = 320 + 12 ∨ 0 = 340 + 12 ∨ 0 = 360 + 12 from by omega)
  have h0n : κ h0 ≠ 0 := by rw [k0]; omega
  refine lv_aload_n hx hb dX1_init_0 rfl (lv_at hl 0 rfl) ?_
  refine W.objInit hx hb hown (hts (.methodLink RX1 3 objectInit) (List.mem_of_getElem? (i := 1) rfl)) (hts (.instanceMethod objectInit) (List.mem_of_getElem? (i := 2) rfl)) (hts (.code objectInit ⟨#[0xb1]⟩ 1 none) (List.mem_of_getElem? (i := 3) rfl)) rfl (by rw [hml]; exact hl.1) rfl dX1_init_1 (Nat.le_of_ble_eq_true rfl) (Nat.le_of_ble_eq_true rfl) ?_
  have nu3 : ∀ a, κ a ≠ 3 := fun a => (hu a).1
  have nu4 : ∀ a, κ a ≠ 352 := fun a => (hu a).2.1
  have nu6 : ∀ a, κ a ≠ 372 := fun a => (hu a).2.2
  refine lv_aload_n hx hb dX1_init_4 rfl (lv_at hl 0 rfl) ?_
  refine hp_newo (C := RX0) (T := TX0) (N := 2) (ci := 0) (kd := 31) hx hb hts iX1_init_X0 tyX0 tyX0_ok hown (hts (.classLink RX1 9 RX0) (List.mem_of_getElem? (i := 4) rfl)) (hts (.instantiable RX0 2) (List.mem_of_getElem? (i := 5) rfl)) (hts (.initialized RX0) (List.mem_of_getElem? (i := 6) rfl)) hK hZ rfl rfl (by unfold hk_ok; omega) (fun _ k hk => by match k, hk with | 0, _ => exact trivial | 1, _ => exact trivial) (fun h => absurd h (by decide)) (by show 0 + 1 ≤ 3; omega) (by show 0 + 2 ≤ 431; omega) dX1_init_5 (fun b1 H zb1 hZ => ?_)
  refine W.cs (cells' := 1) (slots' := 2) (by omega) (by omega) ?_
  have yb1 : κ b1 = 0 := en_b hE zb1 (ne_k k0 zb1 (by omega)).symm
  obtain ⟨κ2, eκ2⟩ : ∃ z, z = hp_kk κ b1 (31) := ⟨_, rfl⟩
  rw [← eκ2] at hZ
  have k3 : κ2 h0 = 33 := by rw [eκ2, hp_kk_n (ne_k k0 zb1 (by omega))]; exact k0
  have k4 : κ2 b1 = 31 := by rw [eκ2]; exact hp_kk_s _ _ _
  have hE : hp_EN (fun n => n = 0 ∨ n = 320 + 12 ∨ n = 340 + 12 ∨ n = 360 + 12) κ κ2 h0 b1 := by rw [eκ2]; exact en_raw hE h0n zb1
  have nu3 : ∀ a, κ2 a ≠ 3 := fun a h => by
    by_cases e9 : a = b1
    · rw [e9, k4] at h; omega
    · rw [eκ2, hp_kk_n e9] at h; exact nu3 a h
  have nu4 : ∀ a, κ2 a ≠ 352 := fun a h => by
    by_cases e9 : a = b1
    · rw [e9, k4] at h; omega
    · rw [eκ2, hp_kk_n e9] at h; exact nu4 a h
  have nu6 : ∀ a, κ2 a ≠ 372 := fun a h => by
    by_cases e9 : a = b1
    · rw [e9, k4] at h; omega
    · rw [eκ2, hp_kk_n e9] at h; exact nu6 a h
  refine lv_dup hx hb dX1_init_8 rfl ?_
  refine hp_callT (va_runI (As := []) (rest := [.ref b1, .ref h0]) ⟨hx, hb, hml, hown, hts⟩ (c_X0_init l dC dI dA κ2 B g b1 k4 12 (by omega) (fun a => ⟨nu4 a, nu6 a⟩)) (cwI 0 hts gX1_init_X0_init rfl rfl rfl (hts (.initialized RX0) (List.mem_of_getElem? (i := 6) rfl)) (hts (.methodLink RX1 11 yX0_init) (List.mem_of_getElem? (i := 8) rfl)) (hts (.instanceMethod yX0_init) (List.mem_of_getElem? (i := 9) rfl)) rfl (by decide +kernel) ⟨Nat.le_of_ble_eq_true rfl, Nat.le_of_ble_eq_true rfl⟩) (hp_preT [.ref b1] hK hN hAO hZ) rfl rfl hl.1 rfl (lv_room (Nat.le_of_ble_eq_true rfl)) dX1_init_9 ⟨(by show 1 + 2 ≤ 3; omega), (by show 2 + 429 ≤ 431; omega)⟩) hZ (fun κ5 H locs hDκ5 hZ => ?_)
  refine W.cs (cells' := 3) (slots' := 431) (by omega) (by omega) ?_
  have k6 : κ5 h0 = 33 := (hDκ5.2.1 h0 (by rw [k3]; omega) (fun h9 => by rw [h9, k4] at k3; omega)).trans k3
  have nu3 : ∀ a, κ5 a ≠ 3 := fun a h => by
    by_cases e9 : a = b1
    · rw [e9, hDκ5.1] at h; omega
    · by_cases hz9 : κ2 a = 0
      · have h8 : (κ5 a) = 0 ∨ (κ5 a) = 340 + 12 ∨ (κ5 a) = 360 + 12 := hDκ5.2.2 a hz9
        omega
      · rw [hDκ5.2.1 a hz9 e9] at h; exact nu3 a h
  have k7 : κ5 b1 = 332 := hDκ5.1
  have hE : hp_EN (fun n => n = 0 ∨ n = 320 + 12 ∨ n = 340 + 12 ∨ n = 360 + 12) κ κ5 h0 h0 := en_call hE yb1 hDκ5 (show (332) = 0 ∨ (332) = 320 + 12 ∨ (332) = 340 + 12 ∨ (332) = 360 + 12 from by omega) (fun n h9 => by have h9 : n = 0 ∨ n = 340 + 12 ∨ n = 360 + 12 := h9; show n = 0 ∨ n = 320 + 12 ∨ n = 340 + 12 ∨ n = 360 + 12; omega)
  refine hp_putv (C := RX1) (T := TX1) (N := 2) (ci := 1) (kd := 33) hx hb hts iX1_init_X1 hown hK hZ.2.2.2.2 k6 (rfl : hk_t 33 = (1, 1, 2)) rfl 0 (by decide) (hts (.fieldLink RX1 12 "NeighborBook$FrameReader" "contents" "LNeighborBook$Contents;") (List.mem_of_getElem? (i := 7) rfl)) (fun _ h9 => h9) tyX1 tyX1_ok nmX1 (v := .ref b1) rfl rfl (by omega) hZ.1 rfl dX1_init_12 (fun F H locs hM hO hS => ?_)
  have hZ := hp_step (k1 := 33) (k2 := 3) hZ.1 hZ.2.1 hZ.2.2.1 (Nat.le_trans hBz hS.1) hM hO hS k6 ((rfl : hk_t 3 = (1, 1, 2)).trans (rfl : hk_t 33 = (1, 1, 2)).symm) (by unfold hk_ok; omega) (by rw [(rfl : hk_t 3 = (1, 1, 2))]; decide) (fun a j hj _ h => by have := hk_sr (hZ.2.2.1 a) h hj; omega) (fun j hj h => by have := hk_sr (kd := 3) (by unfold hk_ok; omega) h hj; omega) ⟨b1, rfl, k7⟩ (fun j hj hl w hw => by
        have hl : j < 2 := by rw [(rfl : hk_t 33 = (1, 1, 2))] at hl; exact hl
        match j, hj, hl, hw with
        | 1, _, _, hw => exact hw
        | 0, hj, _, _ => exact absurd rfl hj) (fun _ => nu3)
  obtain ⟨κ8, eκ8⟩ : ∃ z, z = hp_kk κ5 h0 (3) := ⟨_, rfl⟩
  rw [← eκ8] at hZ
  have k9 : κ8 b1 = 332 := by rw [eκ8, hp_kk_n (fun h9 => by rw [h9, k6] at k7; omega)]; exact k7
  have k10 : κ8 h0 = 3 := by rw [eκ8]; exact hp_kk_s _ _ _
  have hE : hp_EN (fun n => n = 0 ∨ n = 320 + 12 ∨ n = 340 + 12 ∨ n = 360 + 12) κ κ8 h0 h0 := by rw [eκ8]; exact en_step hE h0n
  exact hp_Tret hx hb hK hN hAO hlocks hZ hr (en_D hE h0n k10) dX1_init_15
theorem iX5_init_X5 : ∀ w ∈ wsX50, w ∈ wsX5_init := fun _ h => List.mem_cons_of_mem _ (List.mem_append_right _ h)
set_option maxRecDepth 100000 in
set_option maxHeartbeats 4000000 in
theorem c_X5_init (l : Launch) (dC : Nat → ClassId) (dI : Nat → Nat → Nat) (dA : Nat → ClassId) (κ : Nat → Nat) (B : Nat) (g : Nat → Nat → Int) (h0 : Nat) (k0 : κ h0 = 34) (hg : ∀ a b : Nat, (a = 4 ∧ b = 1) → g a b = 0) (hg2 : g 4 2 = -1) (hu : ∀ a, κ a ≠ 4) : Met l yX5_init wsX5_init ({ frames := 1, cells := 1, slots := 439, locals := 12 } : Room) (hp_PT dC dI dA κ B g [.ref h0]) (hp_QT dC dI dA κ B g h0 (4) (fun n => n = 0 ∨ n = 17)) 1 439 (hp_A B) := by
  refine Met.ofW (cc := cX5_init) (maxL := 1) (ret := none) (by decide) rfl ?_
  intro p e s m args below meth c s₁ Bd hml hv
  obtain ⟨rfl, ⟨hK, hN, hW, hF⟩, hV, hKk, hBz, hAO⟩ := hv
  have hx := Bd.exec
  have hb := Bd.bytes
  have hr := Bd.returns
  have hts := atoms_spec (ws := wsX5_init) Bd.pre
  have hown : s.vm.findClass RX5 = some m.cls := findClass_of_methodNamed Bd.named
  have hlocks := Bd.notSynchronized
  have hin : meth.name = "<init>" := (name_of_methodNamed Bd.named Bd.method).1
  have hZ : hp_Z dC dI dA κ B g s.heap s.heap [] := ⟨hW, hV, hKk, hBz, hF, va_S.rf⟩
  have hl := lv_entry ([Value.ref h0]) (n := 1) (Nat.le_of_ble_eq_true rfl)
  rw [lg_entry_eq]
  generalize (lg_sl ([Value.ref h0]) ++ List.replicate (1 - (lg_sl ([Value.ref h0])).length) Slot.unset).toArray = ls at hl ⊢
  have hl : lv_has ls 1 [(0, .ref h0)] := hl
  have hE : hp_EN (fun n => n = 0 ∨ n = 17) κ κ h0 h0 := en_rf (show 0 = 0 ∨ 0 = 17 from by omega)
  have h0n : κ h0 ≠ 0 := by rw [k0]; omega
  refine lv_aload_n hx hb dX5_init_0 rfl (lv_at hl 0 rfl) ?_
  refine W.objInit hx hb hown (hts (.methodLink RX5 3 objectInit) (List.mem_of_getElem? (i := 1) rfl)) (hts (.instanceMethod objectInit) (List.mem_of_getElem? (i := 2) rfl)) (hts (.code objectInit ⟨#[0xb1]⟩ 1 none) (List.mem_of_getElem? (i := 3) rfl)) rfl (by rw [hml]; exact hl.1) rfl dX5_init_1 (Nat.le_of_ble_eq_true rfl) (Nat.le_of_ble_eq_true rfl) ?_
  refine lv_aload_n hx hb dX5_init_4 rfl (lv_at hl 0 rfl) ?_
  refine hq_sipush hx hb dX5_init_5 (by decide) (fun z1 ez1 => ?_)
  refine hp_newi (atype := .byte) (ty := 1) (N := 439) (kd := 17) hx hb (hts (.arrayClass .byte) (List.mem_of_getElem? (i := 4) rfl)) hK hZ (hK.2 1 _ rfl).2 rfl (by unfold hk_ok; omega) (fun _ k _ => ⟨0, rfl, by decide, by decide⟩) (fun h => absurd h (by decide)) (by omega) (by show 439 * 1 ≤ 536870912; omega) (by show 0 + 1 ≤ 1; omega) (by show 0 + 439 ≤ 439; omega) dX5_init_8 (fun b2 H zb2 hZ => ?_)
  refine W.cs (cells' := 1) (slots' := 439) (by omega) (by omega) ?_
  obtain ⟨κ3, eκ3⟩ : ∃ z, z = hp_kk κ b2 (17) := ⟨_, rfl⟩
  rw [← eκ3] at hZ
  have k4 : κ3 h0 = 34 := by rw [eκ3, hp_kk_n (ne_k k0 zb2 (by omega))]; exact k0
  have k5 : κ3 b2 = 17 := by rw [eκ3]; exact hp_kk_s _ _ _
  have hE : hp_EN (fun n => n = 0 ∨ n = 17) κ κ3 h0 h0 := by rw [eκ3]; exact en_new hE zb2 (show (17) = 0 ∨ (17) = 17 from by omega)
  have hu : ∀ a, κ3 a ≠ 4 := fun a h => by
    by_cases e9 : a = b2
    · rw [e9, k5] at h; omega
    · rw [eκ3, hp_kk_n e9] at h; exact hu a h
  refine hp_putF (C := RX5) (T := TX5) (N := 3) (ci := 5) (kd := 34) hx hb hts iX5_init_X5 hown hK hZ.2.2.2.2 k4 (rfl : hk_t 34 = (1, 5, 3)) rfl 0 (by decide) (hts (.fieldLink RX5 9 "NeighborBook$SentFrame" "bytes" "[B") (List.mem_of_getElem? (i := 5) rfl)) (fun _ h9 => h9) tyX5 tyX5_ok nmX5 (v := .ref b2) rfl rfl (by omega) hZ.1 rfl hin rfl dX5_init_10 (fun F H locs hM hO hS => ?_)
  have hZ := hp_step (k1 := 34) (k2 := 35) hZ.1 hZ.2.1 hZ.2.2.1 (Nat.le_trans hBz hS.1) hM hO hS k4 ((rfl : hk_t 35 = (1, 5, 3)).trans (rfl : hk_t 34 = (1, 5, 3)).symm) (by unfold hk_ok; omega) (by rw [(rfl : hk_t 35 = (1, 5, 3))]; decide) (fun a j hj _ h => by have := hk_sr (hZ.2.2.1 a) h hj; omega) (fun j hj h => by have := hk_sr (kd := 35) (by unfold hk_ok; omega) h hj; omega) ⟨b2, rfl, k5⟩ (fun j hj hl w hw => by
        have hl : j < 3 := by rw [(rfl : hk_t 34 = (1, 5, 3))] at hl; exact hl
        match j, hj, hl, hw with
        | 1, _, _, hw => exact hw
        | 2, _, _, hw => exact hw
        | 0, hj, _, _ => exact absurd rfl hj) (fun h => absurd h (by decide))
  obtain ⟨κ6, eκ6⟩ : ∃ z, z = hp_kk κ3 h0 (35) := ⟨_, rfl⟩
  rw [← eκ6] at hZ
  have k7 : κ6 b2 = 17 := by rw [eκ6, hp_kk_n (fun h9 => by rw [h9, k4] at k5; omega)]; exact k5
  have k8 : κ6 h0 = 35 := by rw [eκ6]; exact hp_kk_s _ _ _
  have hu : ∀ a, κ6 a ≠ 4 := fun a h => by
    by_cases e9 : a = h0
    · rw [e9, k8] at h; omega
    · rw [eκ6, hp_kk_n e9] at h; exact hu a h
  have hE : hp_EN (fun n => n = 0 ∨ n = 17) κ κ6 h0 h0 := by rw [eκ6]; exact en_step hE h0n
  refine lv_aload_n hx hb dX5_init_13 rfl (lv_at hl 0 rfl) ?_
  refine hq_iconst hx hb dX5_init_14 (by decide) (by decide) (fun z9 ez9 => ?_)
  refine hp_putv (C := RX5) (T := TX5) (N := 3) (ci := 5) (kd := 35) hx hb hts iX5_init_X5 hown hK hZ.2.2.2.2 k8 (rfl : hk_t 35 = (1, 5, 3)) rfl 2 (by decide) (hts (.fieldLink RX5 15 "NeighborBook$SentFrame" "port" "I") (List.mem_of_getElem? (i := 6) rfl)) (fun _ h9 => h9) tyX5 tyX5_ok nmX5 (v := .int z9) rfl rfl (by omega) hZ.1 rfl dX5_init_15 (fun F H locs hM hO hS => ?_)
  have hZ := hp_step (k1 := 35) (k2 := 4) hZ.1 hZ.2.1 hZ.2.2.1 (Nat.le_trans hBz hS.1) hM hO hS k8 ((rfl : hk_t 4 = (1, 5, 3)).trans (rfl : hk_t 35 = (1, 5, 3)).symm) (by unfold hk_ok; omega) (by rw [(rfl : hk_t 4 = (1, 5, 3))]; decide) (fun a j hj _ h => by have := hk_sr (hZ.2.2.1 a) h hj; omega) (fun j hj h => by have := hk_sr (kd := 4) (by unfold hk_ok; omega) h hj; omega) ⟨z9, rfl, (show z9.toInt = g 4 2 by rw [hg2]; exact ez9)⟩ (fun j hj hl w hw => by
        have hl : j < 3 := by rw [(rfl : hk_t 35 = (1, 5, 3))] at hl; exact hl
        match j, hj, hl, hw with
        | 0, _, _, hw => exact hw
        | 1, _, _, hw => obtain ⟨x9, hx1, hx2, hx3⟩ := (show ∃ x : Int32, w = .int x ∧ 0 ≤ x.toInt ∧ x.toInt ≤ ((0 : Nat) : Int) from hw); exact ⟨x9, hx1, (show x9.toInt = g 4 1 by rw [hg 4 1 (by decide)]; omega)⟩
        | 2, hj, _, _ => exact absurd rfl hj) (fun _ => hu)
  obtain ⟨κ10, eκ10⟩ : ∃ z, z = hp_kk κ6 h0 (4) := ⟨_, rfl⟩
  rw [← eκ10] at hZ
  have k11 : κ10 b2 = 17 := by rw [eκ10, hp_kk_n (fun h9 => by rw [h9, k8] at k7; omega)]; exact k7
  have k12 : κ10 h0 = 4 := by rw [eκ10]; exact hp_kk_s _ _ _
  have hE : hp_EN (fun n => n = 0 ∨ n = 17) κ κ10 h0 h0 := by rw [eκ10]; exact en_step hE h0n
  exact hp_Tret hx hb hK hN hAO hlocks hZ hr (en_D hE h0n k12) dX5_init_18
set_option maxRecDepth 100000 in
set_option maxHeartbeats 4000000 in
theorem c_X4_init (l : Launch) (dC : Nat → ClassId) (dI : Nat → Nat → Nat) (dA : Nat → ClassId) (κ : Nat → Nat) (B : Nat) (g : Nat → Nat → Int) (h0 kd0 : Nat) (k0 : κ h0 = kd0) (hk0 : kd0 ≠ 0) : Met l yX4_init wsX4_init ({ frames := 1, cells := 0, slots := 0, locals := 12 } : Room) (hp_PT dC dI dA κ B g [.ref h0]) (hp_QT dC dI dA κ B g h0 (kd0) (fun n => n = 0)) 0 0 (hp_A B) := by
  refine Met.ofW (cc := cX4_init) (maxL := 1) (ret := none) (by decide) rfl ?_
  intro p e s m args below meth c s₁ Bd hml hv
  obtain ⟨rfl, ⟨hK, hN, hW, hF⟩, hV, hKk, hBz, hAO⟩ := hv
  have hx := Bd.exec
  have hb := Bd.bytes
  have hr := Bd.returns
  have hts := atoms_spec (ws := wsX4_init) Bd.pre
  have hown : s.vm.findClass RX4 = some m.cls := findClass_of_methodNamed Bd.named
  have hlocks := Bd.notSynchronized
  have hin : meth.name = "<init>" := (name_of_methodNamed Bd.named Bd.method).1
  have hZ : hp_Z dC dI dA κ B g s.heap s.heap [] := ⟨hW, hV, hKk, hBz, hF, va_S.rf⟩
  have hl := lv_entry ([Value.ref h0]) (n := 1) (Nat.le_of_ble_eq_true rfl)
  rw [lg_entry_eq]
  generalize (lg_sl ([Value.ref h0]) ++ List.replicate (1 - (lg_sl ([Value.ref h0])).length) Slot.unset).toArray = ls at hl ⊢
  have hl : lv_has ls 1 [(0, .ref h0)] := hl
  have hE : hp_EN (fun n => n = 0) κ κ h0 h0 := en_rf (show 0 = 0 from by omega)
  have h0n : κ h0 ≠ 0 := by rw [k0]; exact hk0
  refine lv_aload_n hx hb dX4_init_0 rfl (lv_at hl 0 rfl) ?_
  refine W.objInit hx hb hown (hts (.methodLink RX4 3 objectInit) (List.mem_of_getElem? (i := 1) rfl)) (hts (.instanceMethod objectInit) (List.mem_of_getElem? (i := 2) rfl)) (hts (.code objectInit ⟨#[0xb1]⟩ 1 none) (List.mem_of_getElem? (i := 3) rfl)) rfl (by rw [hml]; exact hl.1) rfl dX4_init_1 (Nat.le_of_ble_eq_true rfl) (Nat.le_of_ble_eq_true rfl) ?_
  exact hp_Tret hx hb hK hN hAO hlocks hZ hr (en_D hE h0n k0) dX4_init_4
end
section
theorem hs_ok.ng {κ : Nat → Nat} {e e' : Int} {sp : Nat × Nat} {v : Value} (h : hs_ok κ e sp v) (hn : sp.1 ≠ 0) : hs_ok κ e' sp v := by
  obtain ⟨a, t⟩ := sp
  match a, h, hn with
  | 0, _, hn => exact absurd rfl hn
  | 4, h, _ => exact h
  | 7, _, _ => exact trivial
  | 1, h, _ => exact h
  | 2, h, _ => exact h
  | 3, h, _ => exact h
  | 5, h, _ => exact h
  | 6, h, _ => exact h
  | n + 8, h, _ => exact h
section HPR
variable {dC : Nat → ClassId} {dI : Nat → Nat → Nat} {dA : Nat → ClassId} {κ : Nat → Nat} {B : Nat} {g : Nat → Nat → Int} {H0 H : Heap} {locs : List Loc}
/-- an element of an array that is being filled is set: array and holder go on to their next kinds -/
theorem hp_row {F : hp_F} {h0 b n i kf ka ka' kh kh' kn : Nat} (hW : hp_W κ B) (hV : hp_V κ) (hKk : hp_K κ) (hB : B ≤ H.size) (hM : hp_M dC dI dA κ (hp_u F b i (.ref n)) H) (hO : hp_O κ g F) (hS : va_S (hp_A B) H0 H locs) (kb : κ b = ka) (kh0 : κ h0 = kh) (knn : κ n = kn)
    (hta : hk_t ka' = hk_t ka) (hth : hk_t kh' = hk_t kh) (hoka : hk_ok ka') (hokh : hk_ok kh') (hva : (hk_t ka').1 ≠ 0) (hvh : (hk_t kh').1 ≠ 0) (hxa : hk_x ka' = false) (hxh : hk_x kh' = false) (hne : ka ≠ kh) (hne2 : kn ≠ ka) (hne3 : kn ≠ kh)
    (hsa : ∀ j : Nat, j ≠ i → j < (hk_t ka').2.2 → hk_s ka' j = hk_s ka j ∧ (hk_s ka j).1 ≠ 0) (hsi : hk_s ka' i = (4, kn)) (hsh : ∀ j : Nat, j ≠ kf → j < (hk_t kh').2.2 → hk_s kh' j = hk_s kh j ∧ (hk_s kh j).1 ≠ 0 ∧ hk_s kh j ≠ (4, ka)) (hsf : hk_s kh kf = (4, ka)) (hsf' : hk_s kh' kf = (4, ka')) (hkf : kf < (hk_t kh').2.2)
    (hub : ∀ a, κ a = ka → a = b) (huh : ∀ a, κ a = kh → a = h0) (hnr : ∀ a j : Nat, j < (hk_t (κ a)).2.2 → a ≠ h0 → hk_s (κ a) j ≠ (4, ka)) (hnr2 : ∀ a j : Nat, j < (hk_t (κ a)).2.2 → hk_s (κ a) j ≠ (4, kh)) : hp_Z dC dI dA (hp_kk (hp_kk κ b ka') h0 kh') B g H0 H locs := by
  have hbh : b ≠ h0 := fun e => hne (by rw [← kb, ← kh0, e])
  have n0 : ∀ {k k' : Nat}, hk_t k' = hk_t k → (hk_t k').1 ≠ 0 → k ≠ 0 := by
    intro k k' h1 h2 h3
    rw [h1, h3] at h2
    exact h2 rfl
  obtain ⟨κ', eκ⟩ : ∃ z, z = hp_kk (hp_kk κ b ka') h0 kh' := ⟨_, rfl⟩
  rw [← eκ]
  have c1 : κ' h0 = kh' := by rw [eκ]; exact hp_kk_s _ _ _
  have c2 : κ' b = ka' := by rw [eκ, hp_kk_n hbh]; exact hp_kk_s _ _ _
  have c3 : ∀ a, a ≠ h0 → a ≠ b → κ' a = κ a := fun a h1 h2 => by rw [eκ, hp_kk_n h1, hp_kk_n h2]
  have hmono : ∀ {e : Int} {sp : Nat × Nat} {w : Value}, sp ≠ (4, ka) → sp ≠ (4, kh) → hs_ok κ e sp w → hs_ok κ' e sp w := by
    intro e sp w h1 h2 h
    refine h.mono (fun h4 x hx => ?_)
    by_cases hxs : x = h0
    · rw [hxs, kh0] at hx
      exact absurd (Prod.ext h4 hx.symm) h2
    · by_cases hxb : x = b
      · rw [hxb, kb] at hx
        exact absurd (Prod.ext h4 hx.symm) h1
      · rw [c3 x hxs hxb]; exact hx
  refine ⟨⟨fun a ha => ?_, fun a a' ha hab => ?_⟩, fun a => ?_, fun a => ?_, hB, ⟨hp_u F b i (.ref n), fun a => ?_, fun a j hj => ?_⟩, hS⟩
  · by_cases h : a = h0
    · rw [h]; exact hW.1 h0 (by rw [kh0]; exact n0 hth hvh)
    · by_cases h' : a = b
      · rw [h']; exact hW.1 b (by rw [kb]; exact n0 hta hva)
      · rw [c3 a h h'] at ha
        exact hW.1 a ha
  · by_cases h : a = h0
    · rw [h, c1, hxh] at ha; cases ha
    · by_cases h' : a = b
      · rw [h', c2, hxa] at ha; cases ha
      · by_cases g1 : a' = h0
        · rw [hab, g1, c1, hxh] at ha; cases ha
        · by_cases g2 : a' = b
          · rw [hab, g2, c2, hxa] at ha; cases ha
          · rw [c3 a h h', c3 a' g1 g2] at hab
            rw [c3 a h h'] at ha
            exact hW.2 a a' ha hab
  · by_cases h : a = h0
    · rw [h, c1]; exact Or.inr hvh
    · by_cases h' : a = b
      · rw [h', c2]; exact Or.inr hva
      · rw [c3 a h h']; exact hV a
  · by_cases h : a = h0
    · rw [h, c1]; exact hokh
    · by_cases h' : a = b
      · rw [h', c2]; exact hoka
      · rw [c3 a h h']; exact hKk a
  · have h9 := hM a
    by_cases h : a = h0
    · rw [h, kh0, ← hth] at h9
      rw [h, c1]; exact h9
    · by_cases h' : a = b
      · rw [h', kb, ← hta] at h9
        rw [h', c2]; exact h9
      · rw [c3 a h h']; exact h9
  · by_cases h : a = h0
    · subst h
      rw [c1] at hj ⊢
      have hF : hp_u F b i (.ref n) a j = F a j := by
        unfold hp_u
        rw [if_neg (Ne.symm hbh)]
      rw [hF]
      have h9 := hO a j
      rw [kh0, ← hth] at h9
      have h9 := h9 hj
      by_cases hjf : j = kf
      · subst hjf
        rw [hsf] at h9
        obtain ⟨x, hx1, hx2⟩ := (show ∃ x : Nat, F a j = .ref x ∧ κ x = ka from h9)
        rw [hsf']
        exact ⟨x, hx1, by rw [hub x hx2]; exact c2⟩
      · obtain ⟨h1, h2, h3⟩ := hsh j hjf hj
        rw [h1]
        exact hmono h3 (by have := hnr2 a j (by rw [kh0, ← hth]; exact hj); rw [kh0] at this; exact this) (h9.ng h2)
    · by_cases h' : a = b
      · subst h'
        rw [c2] at hj ⊢
        unfold hp_u
        rw [if_pos rfl]
        unfold updV
        by_cases hji : j = i
        · subst hji
          rw [if_pos rfl, hsi]
          exact ⟨n, rfl, by rw [c3 n (fun e => hne3 (by rw [← knn, e, kh0])) (fun e => hne2 (by rw [← knn, e, kb]))]; exact knn⟩
        · rw [if_neg hji]
          obtain ⟨h1, h2⟩ := hsa j hji hj
          have h9 := hO a j
          rw [kb, ← hta] at h9
          rw [h1]
          refine hmono ?_ ?_ ((h9 hj).ng h2)
          · have := hnr a j (by rw [kb, ← hta]; exact hj) h; rw [kb] at this; exact this
          · have := hnr2 a j (by rw [kb, ← hta]; exact hj); rw [kb] at this; exact this
      · rw [c3 a h h'] at hj ⊢
        have hF : hp_u F b i (.ref n) a j = F a j := by
          unfold hp_u
          rw [if_neg h']
        rw [hF]
        exact hmono (hnr a j hj h) (hnr2 a j hj) (hO a j hj)
end HPR
section HPS
variable {p : Program} {l : Launch} {e : Env} {R : Room} {s : State} {m : MethodId} {args : Array Value} {below : List Frame} {meth : Method} {c : Code} {H : Heap} {locs : List Loc} {cells slots : Nat} {Q : State → Prop}
variable {cc : ByteArray} {pc : Nat} {ls : Array Slot} {rest : List Value}
variable {dC : Nat → ClassId} {dI : Nat → Nat → Nat} {dA : Nat → ClassId} {κ : Nat → Nat} {B : Nat} {g : Nat → Nat → Int} {H0 : Heap} {a : Nat}
/-- aastore, the memory outright -/
theorem hp_aasv (t : Nat) (hx : p.tables.exec = Jvm.exec) (hb : c.code = cc) {kd n : Nat} (hK : va_K (dC, dI) vwCl (hp_ty dA) s) (hJ : hp_J dC dI dA κ B g H0 H locs) (hκ : κ a = kd) (ht : hk_t kd = (2, t, n)) {i : Int32} (h1 : 0 ≤ i.toInt) (h2 : i.toInt < (n : Int)) {b k2 ci N : Nat} {q : vw_C} (h0 : kd ≠ 0) (hW : hp_W κ B) (hκb : κ b = k2) (htb : hk_t k2 = (1, ci, N)) (hc : vwCl[ci]? = some q) (hq : (hp_ty dA)[t]? = some (dA t, .object q.1)) (hdg : decode cc pc = .ok (.aastore, 1))
    (kk : ∀ (F : hp_F) (H1 : Heap) (locs1 : List Loc), hp_M dC dI dA κ (hp_u F a i.toInt.toNat (.ref b)) H1 → hp_O κ g F → va_S (hp_A B) H0 H1 locs1 → W p l e R s m args below meth c H1 locs1 cells slots Q (F0 m (pc + 1) ls rest)) : W p l e R s m args below meth c H locs cells slots Q (F0 m pc ls (.ref b :: .int i :: .ref a :: rest)) := by
  obtain ⟨⟨F, hM, hO⟩, hS0⟩ := hJ
  have h := hM a
  rw [hκ, ht] at h
  have hv := hM b
  rw [hκb, htb] at hv
  obtain ⟨cell, g1, g2, g3, -⟩ := (show t_OB b (dC ci) N (dI ci) H (F b) from hv)
  have hin := hi_in h1 h2
  have hlt : i.toNatClampNeg < n := Nat.not_le.mp fun q => hin (Or.inr q)
  have hi0 : ¬ i < 0 := fun q => hin (Or.inl q)
  have hcls := (hK.1 ci q hc).2
  obtain ⟨kA, comp, k1, k2', k3, -⟩ := (hK.2 t _ hq).2
  have hcomp : comp = dC ci := Option.some.inj (k3.symm.trans hcls.1)
  subst hcomp
  obtain ⟨kC, hkC, -⟩ := id hcls.2
  have h : H[a]? = some (arrV (dA t) n (F a)) := by
    match t, h with
    | t, h => exact h
  refine W.aast hx hb h (fun q h => by cases h) (fun h => by cases h) k1 k2' rfl hkC ⟨hi0, by show _ < (arrV _ _ _).slots.size; rw [arrV_size]; exact hlt⟩ g1 (fun q h => by rw [g3] at h; cases h) (by rw [g2]; exact hkC) (by rw [g2]; exact va_assign hcls) rfl rfl hdg fun H' e1 e2 e3 => ?_
  refine kk F H' _ (hp_set (k := i.toInt.toNat) (v := .ref b) hM ?_ e3) hO (hS0.put e2 e3 (hW.1 a (by rw [hκ]; exact h0)))
  rw [hκ, ht]
  exact e1.trans (congrArg some (arrV_store _ _ _ _ _))
end HPS
end
section
theorem hk_t40 {i : Nat} (h : i ≤ 12) : hk_t (40 + i) = (2, 4, 12) := by
  unfold hk_t
  rw [if_neg (by omega), if_pos (by omega)]
theorem hk_t60 {i : Nat} (h : i ≤ 12) : hk_t (60 + i) = (1, 3, 2) := by
  unfold hk_t
  rw [if_neg (by omega), if_neg (by omega), if_pos (by omega)]
theorem hk_s60 {i : Nat} (h : i ≤ 12) : hk_s (60 + i) 0 = (4, 40 + i) := by
  unfold hk_s
  rw [if_neg (by omega), if_neg (by omega), if_pos (by omega), show 60 + i - 20 = 40 + i by omega]
  rfl
theorem hk_xbig {n : Nat} (h : 40 ≤ n) (h2 : n < 300) : hk_x n = false := by
  unfold hk_x
  rw [if_neg (by omega)]
  exact decide_eq_false (by omega)
theorem hk_s40 {kd j : Nat} (h1 : 40 ≤ kd) (h2 : kd < 60) : hk_s kd j = if j < kd - 40 then (4, 300 + j) else (7, 0) := by
  unfold hk_s
  rw [if_neg (by omega), if_pos h2]
theorem hk_row40 {i : Nat} (h : i < 12) : ∀ j : Nat, j ≠ i → j < (hk_t (41 + i)).2.2 → hk_s (41 + i) j = hk_s (40 + i) j ∧ (hk_s (40 + i) j).1 ≠ 0 := by
  intro j hj _
  rw [hk_s40 (by omega) (by omega), hk_s40 (by omega) (by omega)]
  by_cases h1 : j < i
  · rw [if_pos (show j < 41 + i - 40 by omega), if_pos (show j < 40 + i - 40 by omega)]; exact ⟨rfl, by show (4 : Nat) ≠ 0; decide⟩
  · rw [if_neg (show ¬ j < 41 + i - 40 by omega), if_neg (show ¬ j < 40 + i - 40 by omega)]; exact ⟨rfl, by decide⟩
theorem hk_r16 : ∀ k, k < 12 → hk_s 16 k = (4, 300 + k) := by decide +kernel
theorem hk_rowi40 {i : Nat} (h : i < 12) : hk_s (41 + i) i = (4, 300 + i) := by
  unfold hk_s
  rw [if_neg (by omega), if_pos (by omega), if_pos (by omega)]
theorem hk_row60 {i : Nat} (h : i < 12) : ∀ j : Nat, j ≠ 0 → j < (hk_t (61 + i)).2.2 → hk_s (61 + i) j = hk_s (60 + i) j ∧ (hk_s (60 + i) j).1 ≠ 0 ∧ hk_s (60 + i) j ≠ (4, 40 + i) := by
  intro j hj hl
  have hl : j < 2 := by
    rw [show 61 + i = 60 + (i + 1) by omega, hk_t60 (by omega)] at hl
    exact hl
  have hj1 : j = 1 := by omega
  subst hj1
  unfold hk_s
  rw [if_neg (by omega), if_neg (by omega), if_pos (by omega), if_neg (by omega), if_neg (by omega), if_pos (by omega)]
  exact ⟨rfl, by show (2 : Nat) ≠ 0; decide, by show ((2, 0) : Nat × Nat) ≠ _; intro h9; cases h9⟩
theorem nn_a {n i : Nat} (hi : i < 12) (h : (n = 0 ∨ n = 320 + i ∨ n = 340 + i ∨ n = 360 + i)) : n < 40 ∨ 80 ≤ n := by omega
theorem nn_b {n i : Nat} (hi : i < 12) (h : (n = 0 ∨ n = 320 + i ∨ n = 340 + i ∨ n = 360 + i)) (h3 : 300 ≤ n) : (n - 300) % 20 < i + 1 ∨ 12 ≤ (n - 300) % 20 := by omega
theorem nn_c {n i : Nat} (h : (n = 0 ∨ n = 320 + i ∨ n = 340 + i ∨ n = 360 + i)) : n ≠ 16 := by omega
theorem nn_d {n i : Nat} (hi : i < 12) (h : (n = 0 ∨ n = 320 + i ∨ n = 340 + i ∨ n = 360 + i)) : (n = 0 ∨ n = 16 ∨ (300 ≤ n ∧ n < 380 ∧ (n < 312 ∨ 320 ≤ n) ∧ (n - 300) % 20 < 12)) := by
  rcases h with h | h | h | h <;> subst h
  · exact Or.inl rfl
  · exact Or.inr (Or.inr ⟨by omega, by omega, by omega, by omega⟩)
  · exact Or.inr (Or.inr ⟨by omega, by omega, by omega, by omega⟩)
  · exact Or.inr (Or.inr ⟨by omega, by omega, by omega, by omega⟩)
theorem nn_e {i : Nat} (hi : i < 12) : ((300 + i) = 0 ∨ (300 + i) = 16 ∨ (300 ≤ (300 + i) ∧ (300 + i) < 380 ∧ ((300 + i) < 312 ∨ 320 ≤ (300 + i)) ∧ ((300 + i) - 300) % 20 < 12)) := Or.inr (Or.inr ⟨by omega, by omega, by omega, by omega⟩)
theorem nn_f {n : Nat} (h : (n = 0 ∨ n = 16 ∨ (300 ≤ n ∧ n < 380 ∧ (n < 312 ∨ 320 ≤ n) ∧ (n - 300) % 20 < 12))) : n < 40 ∨ 80 ≤ n := by omega
theorem nn_g {n : Nat} (h : (n = 0 ∨ n = 16 ∨ (300 ≤ n ∧ n < 380 ∧ (n < 312 ∨ 320 ≤ n) ∧ (n - 300) % 20 < 12))) : n ≠ 10 ∧ n ≠ 40 := by omega
theorem nn_i {a i : Nat} (h : a < i ∨ 12 ≤ a) : a < i + 1 ∨ 12 ≤ a := by omega
theorem nn_8 {n i : Nat} (hi : i < 12) (h : 300 ≤ n → (n - 300) % 20 < i ∨ 12 ≤ (n - 300) % 20) : n ≠ 300 + i ∧ n ≠ 340 + i ∧ n ≠ 360 + i := by
  refine ⟨fun q => ?_, fun q => ?_, fun q => ?_⟩
  · have := h (by omega); omega
  · have := h (by omega); omega
  · have := h (by omega); omega
theorem nn_s {kd j i : Nat} (ho : hk_ok kd) (hj : j < (hk_t kd).2.2) (hi : i ≤ 12) (h : hk_s kd j = (4, 40 + i)) : kd = 60 + i := by
  have := hk_sr ho h hj
  omega
theorem nn_t {kd j i : Nat} (ho : hk_ok kd) (hj : j < (hk_t kd).2.2) (hi : i ≤ 12) : hk_s kd j ≠ (4, 60 + i) := fun h => by
  have := hk_sr ho h hj
  omega
theorem nn_u {n i : Nat} (h : n < 40 ∨ 80 ≤ n) (hi : i ≤ 12) : n ≠ 40 + i ∧ n ≠ 60 + i ∧ n ≠ 41 + i ∧ n ≠ 61 + i := by omega
theorem nn_v {n i : Nat} (h : n < 40 ∨ 80 ≤ n) (hi : i ≤ 12) (q : n = 40 + (i + 1)) : False := by omega
section HPF
variable {dC : Nat → ClassId} {dI : Nat → Nat → Nat} {dA : Nat → ClassId} {κ : Nat → Nat} {B : Nat} {g : Nat → Nat → Int} {H0 H : Heap} {locs : List Loc}
/-- what is made is made: the kinds change, the memory stays -/
theorem hp_re {κ' : Nat → Nat} (hZ : hp_Z dC dI dA κ B g H0 H locs) (ht : ∀ a, hk_t (κ' a) = hk_t (κ a)) (hz : ∀ a, κ' a ≠ 0 → κ a ≠ 0) (hv : hp_V κ') (hok : hp_K κ') (hu : ∀ a b : Nat, hk_x (κ' a) = true → κ' a = κ' b → a = b) (hs : ∀ a k v, k < (hk_t (κ a)).2.2 → hs_ok κ (g (κ a) k) (hk_s (κ a) k) v → hs_ok κ' (g (κ' a) k) (hk_s (κ' a) k) v) : hp_Z dC dI dA κ' B g H0 H locs := by
  obtain ⟨hW, hV, hKk, hB, ⟨F, hM, hO⟩, hS⟩ := hZ
  refine ⟨⟨fun a ha => hW.1 a (hz a ha), hu⟩, hv, hok, hB, ⟨F, fun a => ?_, fun a k hk => ?_⟩, hS⟩
  · rw [ht a]; exact hM a
  · rw [ht a] at hk
    exact hs a k _ hk (hO a k hk)
theorem hp_fin12 {b h0 : Nat} (hZ : hp_Z dC dI dA κ B g H0 H locs) (kb : κ b = 40 + 12) (kh : κ h0 = 60 + 12) (hub : ∀ a, κ a = 40 + 12 → a = b) (hu : ∀ a, κ a ≠ 10) (hu16 : ∀ a, κ a ≠ 16) (hg : g 10 1 = 0) (hal : ∀ a, a ≠ h0 → κ a < 40 ∨ (κ a = 52 ∧ a = b) ∨ 80 ≤ κ a) : hp_Z dC dI dA (hp_kk (hp_kk κ b 16) h0 10) B g H0 H locs := by
  have hbh : b ≠ h0 := fun e => by rw [e, kh] at kb; omega
  obtain ⟨κ', eκ⟩ : ∃ z, z = hp_kk (hp_kk κ b 16) h0 10 := ⟨_, rfl⟩
  rw [← eκ]
  have c1 : κ' h0 = 10 := by rw [eκ]; exact hp_kk_s _ _ _
  have c2 : κ' b = 16 := by rw [eκ, hp_kk_n hbh]; exact hp_kk_s _ _ _
  have c3 : ∀ a, a ≠ h0 → a ≠ b → κ' a = κ a := fun a h1 h2 => by rw [eκ, hp_kk_n h1, hp_kk_n h2]
  have hcase : ∀ (P : Nat → Prop), P h0 → P b → (∀ a, a ≠ h0 → a ≠ b → P a) → ∀ a, P a := by
    intro P p1 p2 p3 a
    by_cases h : a = h0
    · rw [h]; exact p1
    · by_cases h' : a = b
      · rw [h']; exact p2
      · exact p3 a h h'
  have hmono : ∀ {e : Int} {sp : Nat × Nat} {w : Value}, sp ≠ (4, 52) → sp ≠ (4, 72) → hs_ok κ e sp w → hs_ok κ' e sp w := by
    intro e sp w h1 h2 h
    refine h.mono (fun h4 x hx => ?_)
    by_cases hxs : x = h0
    · rw [hxs, kh] at hx
      exact absurd (Prod.ext h4 hx.symm) h2
    · by_cases hxb : x = b
      · rw [hxb, kb] at hx
        exact absurd (Prod.ext h4 hx.symm) h1
      · rw [c3 x hxs hxb]; exact hx
  refine hp_re hZ (hcase _ (by rw [c1, kh]; rfl) (by rw [c2, kb]; rfl) (fun a h h' => by rw [c3 a h h'])) (hcase _ (fun _ => by rw [kh]; omega) (fun _ => by rw [kb]; omega) (fun a h h' => by rw [c3 a h h']; exact id)) (hcase _ (by rw [c1]; exact Or.inr (by decide)) (by rw [c2]; exact Or.inr (by decide)) (fun a h h' => by rw [c3 a h h']; exact hZ.2.1 a)) (hcase _ (by rw [c1]; unfold hk_ok; omega) (by rw [c2]; unfold hk_ok; omega) (fun a h h' => by rw [c3 a h h']; exact hZ.2.2.1 a)) ?_ ?_
  · intro a a' ha hab
    by_cases h : a = h0
    · by_cases g1 : a' = h0
      · rw [h, g1]
      · by_cases g2 : a' = b
        · rw [h, c1, g2, c2] at hab; omega
        · rw [h, c1, c3 a' g1 g2] at hab; exact absurd hab.symm (hu a')
    · by_cases h' : a = b
      · by_cases g1 : a' = h0
        · rw [h', c2, g1, c1] at hab; omega
        · by_cases g2 : a' = b
          · rw [h', g2]
          · rw [h', c2, c3 a' g1 g2] at hab; exact absurd hab.symm (hu16 a')
      · rw [c3 a h h'] at ha hab
        by_cases g1 : a' = h0
        · rw [g1, c1] at hab; exact absurd hab (hu a)
        · by_cases g2 : a' = b
          · rw [g2, c2] at hab; exact absurd hab (hu16 a)
          · rw [c3 a' g1 g2] at hab
            exact hZ.1.2 a a' ha hab
  · intro a k v hk h
    by_cases ha : a = h0
    · subst ha
      rw [kh] at hk h
      rw [c1]
      have hk : k < 2 := hk
      match k, hk, h with
      | 0, _, h =>
        obtain ⟨x, h1, h2⟩ := (show ∃ x : Nat, v = .ref x ∧ κ x = 52 from h)
        exact ⟨x, h1, by rw [hub x h2]; exact c2⟩
      | 1, _, h =>
        obtain ⟨x, h1, h2, h3⟩ := (show ∃ x : Int32, v = .int x ∧ 0 ≤ x.toInt ∧ x.toInt ≤ ((0 : Nat) : Int) from h)
        exact ⟨x, h1, (show x.toInt = g 10 1 by rw [hg]; omega)⟩
    · by_cases hab : a = b
      · subst hab
        rw [kb] at hk h
        rw [c2]
        have hk : k < 12 := hk
        have h9 : hk_s (40 + 12) k = (4, 300 + k) := by
          unfold hk_s
          rw [if_neg (by omega), if_pos (by omega), if_pos (by omega)]
        rw [h9] at h
        rw [hk_r16 k hk]
        exact hmono (sp := (4, 300 + k)) (fun h8 => by simp only [Prod.mk.injEq] at h8; omega) (fun h8 => by simp only [Prod.mk.injEq] at h8; omega) (show hs_ok κ (g 16 k) (4, 300 + k) v from h)
      · rw [c3 a ha hab]
        refine hmono (fun h9 => ?_) (fun h9 => ?_) h
        · have h5 := hk_sr (hZ.2.2.1 a) h9 hk
          have := hal a ha
          omega
        · have h5 := hk_sr (hZ.2.2.1 a) h9 hk
          omega
end HPF
end
section
theorem iX3_init_X3 : ∀ w ∈ wsX30, w ∈ wsX3_init := fun _ h => List.mem_cons_of_mem _ (List.mem_append_left _ (List.mem_append_left _ (List.mem_append_right _ h)))
theorem iX3_init_X2 : ∀ w ∈ wsX20, w ∈ wsX3_init := fun _ h => List.mem_cons_of_mem _ (List.mem_append_left _ (List.mem_append_right _ h))
theorem iX3_init_X0 : ∀ w ∈ wsX00, w ∈ wsX3_init := fun _ h => List.mem_cons_of_mem _ (List.mem_append_right _ h)
set_option maxRecDepth 100000 in
set_option maxHeartbeats 4000000 in
theorem c_X3_init (l : Launch) (dC : Nat → ClassId) (dI : Nat → Nat → Nat) (dA : Nat → ClassId) (κ : Nat → Nat) (B : Nat) (g : Nat → Nat → Int) (h0 : Nat) (k0 : κ h0 = 37) (hg : g 10 1 = 0) (hu : ∀ a, κ a ≠ 10) (hu16 : ∀ a, κ a ≠ 16) (hu6 : ∀ a, a ≠ h0 → κ a < 40 ∨ 80 ≤ κ a) (hu3 : ∀ a, 300 ≤ κ a → 12 ≤ (κ a - 300) % 20) : Met l yX3_init wsX3_init ({ frames := 4, cells := 49, slots := 5232, locals := 83 } : Room) (hp_PT dC dI dA κ B g [.ref h0]) (hp_QT dC dI dA κ B g h0 (10) (fun n => n = 0 ∨ n = 16 ∨ (300 ≤ n ∧ n < 380 ∧ (n < 312 ∨ 320 ≤ n) ∧ (n - 300) % 20 < 12))) 49 5232 (hp_A B) := by
  refine Met.ofW (cc := cX3_init) (maxL := 2) (ret := none) (by decide) rfl ?_
  intro p e s m args below meth c s₁ Bd hml hv
  obtain ⟨rfl, ⟨hK, hN, hW, hF⟩, hV, hKk, hBz, hAO⟩ := hv
  have hx := Bd.exec
  have hb := Bd.bytes
  have hr := Bd.returns
  have hts := atoms_spec (ws := wsX3_init) Bd.pre
  have hown : s.vm.findClass RX3 = some m.cls := findClass_of_methodNamed Bd.named
  have hlocks := Bd.notSynchronized
  have hin : meth.name = "<init>" := (name_of_methodNamed Bd.named Bd.method).1
  have hZ : hp_Z dC dI dA κ B g s.heap s.heap [] := ⟨hW, hV, hKk, hBz, hF, va_S.rf⟩
  have hl := lv_entry ([Value.ref h0]) (n := 2) (Nat.le_of_ble_eq_true rfl)
  rw [lg_entry_eq]
  generalize (lg_sl ([Value.ref h0]) ++ List.replicate (2 - (lg_sl ([Value.ref h0])).length) Slot.unset).toArray = ls at hl ⊢
  have hl : lv_has ls 2 [(0, .ref h0)] := hl
  have hE : hp_EN (fun n => n = 0 ∨ n = 16 ∨ (300 ≤ n ∧ n < 380 ∧ (n < 312 ∨ 320 ≤ n) ∧ (n - 300) % 20 < 12)) κ κ h0 h0 := en_rf (show 0 = 0 ∨ 0 = 16 ∨ (300 ≤ 0 ∧ 0 < 380 ∧ (0 < 312 ∨ 320 ≤ 0) ∧ (0 - 300) % 20 < 12) from by omega)
  have h0n : κ h0 ≠ 0 := by rw [k0]; omega
  refine lv_aload_n hx hb dX3_init_0 rfl (lv_at hl 0 rfl) ?_
  refine W.objInit hx hb hown (hts (.methodLink RX3 3 objectInit) (List.mem_of_getElem? (i := 1) rfl)) (hts (.instanceMethod objectInit) (List.mem_of_getElem? (i := 2) rfl)) (hts (.code objectInit ⟨#[0xb1]⟩ 1 none) (List.mem_of_getElem? (i := 3) rfl)) rfl (by rw [hml]; exact hl.1) rfl dX3_init_1 (Nat.le_of_ble_eq_true rfl) (Nat.le_of_ble_eq_true rfl) ?_
  refine lv_aload_n hx hb dX3_init_4 rfl (lv_at hl 0 rfl) ?_
  refine hq_bipush hx hb dX3_init_5 (by decide) (fun z1 ez1 => ?_)
  refine hp_newr (C := RX2) (ty := 4) (N := 12) (kd := 40) hx hb hown (hts (.classLink RX3 9 RX2) (List.mem_of_getElem? (i := 4) rfl)) hAO.2 hZ (show s.vm.findClass ("[" ++ (FieldType.object RX2).toString) = some (dA 4) from (by obtain ⟨kA, comp, q1, q2, q3, q4⟩ := (hK.2 4 _ rfl).2; exact q4)) rfl (by unfold hk_ok; omega) (fun _ k _ => trivial) (fun h => absurd h (by decide)) (by omega) (by omega) (by show 0 + 1 ≤ 49; omega) (by show 0 + 12 ≤ 5232; omega) dX3_init_7 (fun b2 H zb2 hZ => ?_)
  refine W.cs (cells' := 1) (slots' := 12) (by omega) (by omega) ?_
  have yb2 : κ b2 = 0 := zb2
  obtain ⟨κ3, eκ3⟩ : ∃ z, z = hp_kk κ b2 (40) := ⟨_, rfl⟩
  rw [← eκ3] at hZ
  have k4 : κ3 h0 = 37 := by rw [eκ3, hp_kk_n (ne_k k0 zb2 (by omega))]; exact k0
  have k5 : κ3 b2 = 40 := by rw [eκ3]; exact hp_kk_s _ _ _
  have hE : hp_EN (fun n => n = 0 ∨ n = 16 ∨ (300 ≤ n ∧ n < 380 ∧ (n < 312 ∨ 320 ≤ n) ∧ (n - 300) % 20 < 12)) κ κ3 h0 b2 := by rw [eκ3]; exact en_raw hE h0n zb2
  refine hp_putF (C := RX3) (T := TX3) (N := 2) (ci := 3) (kd := 37) hx hb hts iX3_init_X3 hown hK hZ.2.2.2.2 k4 (rfl : hk_t 37 = (1, 3, 2)) rfl 0 (by decide) (hts (.fieldLink RX3 11 "NeighborBook$Neighbors" "rows" "[LNeighborBook$Neighbor;") (List.mem_of_getElem? (i := 5) rfl)) (fun _ h9 => h9) tyX3 tyX3_ok nmX3 (v := .ref b2) rfl rfl (by omega) hZ.1 rfl hin rfl dX3_init_10 (fun F H locs hM hO hS => ?_)
  have hZ := hp_step (k1 := 37) (k2 := 60) hZ.1 hZ.2.1 hZ.2.2.1 (Nat.le_trans hBz hS.1) hM hO hS k4 ((rfl : hk_t 60 = (1, 3, 2)).trans (rfl : hk_t 37 = (1, 3, 2)).symm) (by unfold hk_ok; omega) (by rw [(rfl : hk_t 60 = (1, 3, 2))]; decide) (fun a j hj _ h => by have := hk_sr (hZ.2.2.1 a) h hj; omega) (fun j hj h => by have := hk_sr (kd := 60) (by unfold hk_ok; omega) h hj; omega) ⟨b2, rfl, k5⟩ (fun j hj hl w hw => by
        have hl : j < 2 := by rw [(rfl : hk_t 37 = (1, 3, 2))] at hl; exact hl
        match j, hj, hl, hw with
        | 1, _, _, hw => exact hw
        | 0, hj, _, _ => exact absurd rfl hj) (fun h => absurd h (by decide))
  obtain ⟨κ6, eκ6⟩ : ∃ z, z = hp_kk κ3 h0 (60) := ⟨_, rfl⟩
  rw [← eκ6] at hZ
  have k7 : κ6 b2 = 40 := by rw [eκ6, hp_kk_n (fun h9 => by rw [h9, k4] at k5; omega)]; exact k5
  have k8 : κ6 h0 = 60 := by rw [eκ6]; exact hp_kk_s _ _ _
  have hE : hp_EN (fun n => n = 0 ∨ n = 16 ∨ (300 ≤ n ∧ n < 380 ∧ (n < 312 ∨ 320 ≤ n) ∧ (n - 300) % 20 < 12)) κ κ6 h0 b2 := by rw [eκ6]; exact en_step hE h0n
  have hub : ∀ a, κ6 a = 40 → a = b2 := by
    intro a h
    by_cases ha : a = h0
    · rw [ha, k8] at h; cases h
    · by_cases hz : κ a = 0
      · rcases hE.2 a hz with h3 | h3
        · exact h3
        · exact absurd h (nn_g h3).2
      · have := hu6 a ha; rw [hE.1 a hz ha] at h; omega
  have hcol : ∀ a, 300 ≤ κ6 a → (κ6 a - 300) % 20 < 0 ∨ 12 ≤ (κ6 a - 300) % 20 := by
    intro a h
    by_cases ha : a = h0
    · rw [ha, k8] at h; omega
    · by_cases hab : a = b2
      · rw [hab, k7] at h; omega
      · rw [eκ6, hp_kk_n ha, eκ3, hp_kk_n hab] at h ⊢; exact Or.inr (hu3 a h)
  have h16 : ∀ a, κ6 a ≠ 16 := by
    intro a h
    by_cases ha : a = h0
    · rw [ha, k8] at h; omega
    · by_cases hab : a = b2
      · rw [hab, k7] at h; omega
      · rw [eκ6, hp_kk_n ha, eκ3, hp_kk_n hab] at h; exact hu16 a h
  refine hq_iconst hx hb dX3_init_13 (by decide) (by decide) (fun z9 ez9 => ?_)
  refine lv_istore_n (lv' := [(1, .int z9), (0, .ref h0)]) hx hb dX3_init_14 rfl hl (by decide) rfl (fun ls hl => ?_)
  have lp : ∀ (n i : Nat) (v : Int32) (κi : Nat → Nat) (H : Heap) (locs : List Loc) (ls : Array Slot), i ≤ 12 → v.toInt = (i : Int) → 12 - i < n → κi h0 = 60 + i → κi b2 = 40 + i → (∀ a, κi a = 40 + i → a = b2) → (∀ a, 300 ≤ κi a → (κi a - 300) % 20 < i ∨ 12 ≤ (κi a - 300) % 20) → (∀ a, κi a ≠ 16) → hp_EN (fun n => n = 0 ∨ n = 16 ∨ (300 ≤ n ∧ n < 380 ∧ (n < 312 ∨ 320 ≤ n) ∧ (n - 300) % 20 < 12)) κ κi h0 b2 → hp_Z dC dI dA κi B g s.heap H locs → lv_has ls 2 [(0, .ref h0), (1, .int v)] → W p l e (headSpec wsX3_init ({ frames := 4, cells := 49, slots := 5232, locals := 83 } : Room)).room s m ([Value.ref h0] : List Value).toArray below meth c H locs (1 + 4 * i) (12 + 435 * i) (MQ below (hp_QT dC dI dA κ B g h0 (10) (fun n => n = 0 ∨ n = 16 ∨ (300 ≤ n ∧ n < 380 ∧ (n < 312 ∨ 320 ≤ n) ∧ (n - 300) % 20 < 12))) ([Value.ref h0] : List Value).toArray s 49 5232 (hp_A B)) (F0 m 15 ls []) := by
    intro n
    induction n with
    | zero => intro i v κi H locs ls h1 h2 h3; exact absurd h3 (by omega)
    | succ n ih =>
      intro i v κi H locs ls hi hv hn kh kb hub hcol h16 hE hZ hl
      refine lv_iload_n hx hb dX3_init_15 rfl (lv_at hl 1 rfl) ?_
      refine hq_bipush hx hb dX3_init_16 (by decide) (fun z9 ez9 => ?_)
      refine hq_icmp_ge (tgt := 40) hx hb dX3_init_18 (by decide) (fun c9 => ?_) (fun c9 => ?_)
      · have hi12 : i = 12 := by omega
        subst hi12
        have hu2 : ∀ a, κi a ≠ 10 := by
          intro a h
          by_cases ha : a = h0
          · rw [ha, kh] at h; omega
          · by_cases hz : κ a = 0
            · rcases hE.2 a hz with h3 | h3
              · rw [h3, kb] at h; omega
              · exact absurd h (nn_g h3).1
            · exact hu a (by rw [← hE.1 a hz ha]; exact h)
        have hZ2 := hp_fin12 (b := b2) (h0 := h0) hZ kb kh hub hu2 h16 hg (fun a ha => by
          by_cases hz : κ a = 0
          · rcases hE.2 a hz with h3 | h3
            · exact Or.inr (Or.inl ⟨by rw [h3]; exact kb, h3⟩)
            · exact (nn_f h3).elim Or.inl (fun h9 => Or.inr (Or.inr h9))
          · rw [hE.1 a hz ha]; exact (hu6 a ha).elim Or.inl (fun h9 => Or.inr (Or.inr h9)))
        have hD : hp_D (fun n => n = 0 ∨ n = 16 ∨ (300 ≤ n ∧ n < 380 ∧ (n < 312 ∨ 320 ≤ n) ∧ (n - 300) % 20 < 12)) κ (hp_kk (hp_kk κi b2 16) h0 10) h0 10 := by
          have hbh : b2 ≠ h0 := fun e9 => by rw [e9, kh] at kb; omega
          refine ⟨hp_kk_s _ _ _, fun a h1 h2 => ?_, fun a h1 => ?_⟩
          · rw [hp_kk_n h2, hp_kk_n (fun e9 => h1 (by rw [e9]; exact yb2))]
            exact hE.1 a h1 h2
          · rw [hp_kk_n (fun e9 => h0n (by rw [← e9]; exact h1))]
            by_cases e9 : a = b2
            · rw [e9, hp_kk_s]; exact Or.inr (Or.inl rfl)
            · rw [hp_kk_n e9]
              exact (hE.2 a h1).elim (fun h3 => absurd h3 e9) id
        exact hp_Tret hx hb hK hN hAO hlocks hZ2 hr hD dX3_init_40
      · refine lv_aload_n hx hb dX3_init_21 rfl (lv_at hl 0 rfl) ?_
        refine hp_getr (C := RX3) (T := TX3) (N := 2) (ci := 3) (kd := 60 + i) (k2 := 40 + i) hx hb hts iX3_init_X3 hown hK hZ.2.2.2.2 kh (hk_t60 hi) rfl 0 (by decide) (hts (.fieldLink RX3 11 "NeighborBook$Neighbors" "rows" "[LNeighborBook$Neighbor;") (List.mem_of_getElem? (i := 5) rfl)) (fun _ h9 => h9) (hk_s60 hi) dX3_init_22 (fun b7 kb7 => ?_)
        have eb7 := hub b7 kb7
        subst eb7
        refine lv_iload_n hx hb dX3_init_25 rfl (lv_at hl 1 rfl) ?_
        refine hp_newo (C := RX2) (T := TX2) (N := 4) (ci := 2) (kd := 36) hx hb hts iX3_init_X2 tyX2 tyX2_ok hown (hts (.classLink RX3 9 RX2) (List.mem_of_getElem? (i := 4) rfl)) (hts (.instantiable RX2 4) (List.mem_of_getElem? (i := 6) rfl)) (hts (.initialized RX2) (List.mem_of_getElem? (i := 7) rfl)) hK hZ rfl rfl (by unfold hk_ok; omega) (fun _ k hk => by match k, hk with | 0, _ => exact trivial | 1, _ => exact ⟨0, rfl, by decide, by decide⟩ | 2, _ => exact ⟨0, rfl, trivial⟩ | 3, _ => exact ⟨0, rfl, trivial⟩) (fun h => absurd h (by decide)) (by show 1 + 4 * i + 1 ≤ 49; omega) (by show 12 + 435 * i + 4 ≤ 5232; omega) dX3_init_26 (fun o8 H zo8 hZ => ?_)
        obtain ⟨κ8, e8⟩ : ∃ z, z = hp_kk κi o8 36 := ⟨_, rfl⟩
        rw [← e8] at hZ
        have ko8 : κ8 o8 = 36 := by rw [e8]; exact hp_kk_s _ _ _
        have kh8 : κ8 h0 = 60 + i := by rw [e8, hp_kk_n (ne_k kh zo8 (by omega))]; exact kh
        have kb8 : κ8 b7 = 40 + i := by rw [e8, hp_kk_n (ne_k kb zo8 (by omega))]; exact kb
        have hb7h : b7 ≠ h0 := fun e9 => by rw [e9, kh] at kb; omega
        have hi12 : i < 12 := by omega
        have hu8 : ∀ a, κ8 a ≠ 300 + i ∧ κ8 a ≠ 340 + i ∧ κ8 a ≠ 360 + i := by
          intro a
          by_cases hao : a = o8
          · rw [hao, ko8]; omega
          · rw [e8, hp_kk_n hao]; exact nn_8 hi12 (hcol a)
        have yo8 : κ o8 = 0 := Classical.byContradiction fun h1 => by
          have h2 := hE.1 o8 h1 (ne_k kh zo8 (by omega)).symm
          rw [zo8] at h2
          exact h1 h2.symm
        refine lv_dup hx hb dX3_init_29 rfl ?_
        refine hp_callT (va_runIN (As := []) (rest := [.ref o8, .int v, .ref b7, ]) ⟨hx, hb, hml, hown, hts⟩ (c_X2_init l dC dI dA κ8 B g o8 ko8 i (by omega) hu8) ⟨va_cnB 0 hts gX3_init_X2_init_n17 rfl rfl rfl (hN _ (List.mem_of_getElem? (i := 0) rfl)) (hts (.initialized RX2) (List.mem_of_getElem? (i := 7) rfl)) (by decide +kernel) ⟨Nat.le_of_ble_eq_true rfl, Nat.le_of_ble_eq_true rfl⟩, rfl, (hts (.instanceMethod yX2_init) (List.mem_of_getElem? (i := 8) rfl))⟩ (hp_preT [.ref o8] hK hN hAO hZ) rfl rfl hl.1 rfl (lv_room (Nat.le_of_ble_eq_true rfl)) dX3_init_30 ⟨(by show 1 + 4 * i + 1 + 3 ≤ 49; omega), (by show 12 + 435 * i + 4 + 431 ≤ 5232; omega)⟩) hZ (fun κ9 H locs hD9 hZ => ?_)
        have ko9 : κ9 o8 = 300 + i := hD9.1
        have kh9 : κ9 h0 = 60 + i := (hD9.2.1 h0 (by rw [kh8]; omega) (fun e9 => by rw [e9, ko8] at kh8; omega)).trans kh8
        have kb9 : κ9 b7 = 40 + i := (hD9.2.1 b7 (by rw [kb8]; omega) (fun e9 => by rw [e9, ko8] at kb8; omega)).trans kb8
        have hal9 : ∀ a, a ≠ h0 → a ≠ b7 → κ9 a < 40 ∨ 80 ≤ κ9 a := by
          intro a ha hab
          by_cases hao : a = o8
          · rw [hao, ko9]; omega
          · by_cases hz8 : κ8 a = 0
            · exact nn_a hi12 (hD9.2.2 a hz8)
            · rw [hD9.2.1 a hz8 hao, e8, hp_kk_n hao]
              by_cases hz : κ a = 0
              · rcases hE.2 a hz with h3 | h3
                · exact absurd h3 hab
                · exact nn_f h3
              · have := hu6 a ha; rw [hE.1 a hz ha]; exact this
        have hcol9 : ∀ a, 300 ≤ κ9 a → (κ9 a - 300) % 20 < i + 1 ∨ 12 ≤ (κ9 a - 300) % 20 := by
          intro a h
          by_cases hao : a = o8
          · rw [hao, ko9]; omega
          · by_cases hz8 : κ8 a = 0
            · exact nn_b hi12 (hD9.2.2 a hz8) h
            · rw [hD9.2.1 a hz8 hao, e8, hp_kk_n hao] at h ⊢
              exact nn_i (hcol a h)
        have h169 : ∀ a, κ9 a ≠ 16 := by
          intro a h
          by_cases hao : a = o8
          · rw [hao, ko9] at h; omega
          · by_cases hz8 : κ8 a = 0
            · exact nn_c (hD9.2.2 a hz8) h
            · rw [hD9.2.1 a hz8 hao, e8, hp_kk_n hao] at h
              exact h16 a h
        have hub9 : ∀ a, κ9 a = 40 + i → a = b7 := fun a h => Classical.byContradiction fun hab => by
          by_cases ha : a = h0
          · rw [ha, kh9] at h; omega
          · exact (nn_u (hal9 a ha hab) hi).1 h
        refine hp_aasv 4 (q := (RX2, TX2, 4)) (n := 12) hx hb hK hZ.2.2.2.2 kb9 (hk_t40 hi) (by omega) (by omega) (by omega) hZ.1 ko9 (hk_t300 (by omega)) rfl rfl dX3_init_33 (fun F H locs hM hO hS => ?_)
        have hii : v.toInt.toNat = i := by omega
        rw [hii] at hM
        have hZ := hp_row (ka := 40 + i) (ka' := 41 + i) (kh := 60 + i) (kh' := 61 + i) (kn := 300 + i) (kf := 0) hZ.1 hZ.2.1 hZ.2.2.1 (Nat.le_trans hBz hS.1) hM hO hS kb9 kh9 ko9 (by rw [hk_t40 hi, show 41 + i = 40 + (i + 1) by omega, hk_t40 (by omega)]) (by rw [hk_t60 hi, show 61 + i = 60 + (i + 1) by omega, hk_t60 (by omega)]) (by unfold hk_ok; omega) (by unfold hk_ok; omega) (by rw [show 41 + i = 40 + (i + 1) by omega, hk_t40 (by omega)]; simp) (by rw [show 61 + i = 60 + (i + 1) by omega, hk_t60 (by omega)]; simp) (hk_xbig (by omega) (by omega)) (hk_xbig (by omega) (by omega)) (by omega) (by omega) (by omega)
          (hk_row40 (by omega)) (hk_rowi40 (by omega)) (hk_row60 (by omega)) (hk_s60 hi) (by rw [show 61 + i = 60 + (i + 1) by omega, hk_s60 (by omega), show 40 + (i + 1) = 41 + i by omega]) (by rw [show 61 + i = 60 + (i + 1) by omega, hk_t60 (by omega)]; decide) hub9 (fun a h => Classical.byContradiction fun ha => by
            by_cases hab : a = b7
            · rw [hab, kb9] at h; omega
            · exact (nn_u (hal9 a ha hab) hi).2.1 h)
          (fun a j hj ha h => by
            have h5 := nn_s (hZ.2.2.1 a) hj hi h
            by_cases hab : a = b7
            · rw [hab, kb9] at h5; omega
            · exact (nn_u (hal9 a ha hab) hi).2.1 h5)
          (fun a j hj => nn_t (hZ.2.2.1 a) hj hi)
        obtain ⟨κ10, e10⟩ : ∃ z, z = hp_kk (hp_kk κ9 b7 (41 + i)) h0 (61 + i) := ⟨_, rfl⟩
        rw [← e10] at hZ
        refine hq_iinc (k := 1) (lv' := fun (z9 : Int32) => [(1, .int z9), (0, .ref h0)]) hx hb dX3_init_34 hl rfl (by decide) (by decide) (by omega) (by omega) (by decide) (fun _ => rfl) (fun x9 ls ex9 hl => ?_)
        have hl : lv_has ls 2 [(1, .int x9), (0, .ref h0)] := hl
        refine lv_goto (tgt := 15) hx hb dX3_init_37 (by decide) ?_
        refine W.cs (cells' := 1 + 4 * (i + 1)) (slots' := 12 + 435 * (i + 1)) (by omega) (by omega) ?_
        exact ih (i + 1) x9 κ10 _ _ ls (by omega) (by omega) (by omega) (by rw [e10, hp_kk_s]; omega) (by rw [e10, hp_kk_n hb7h, hp_kk_s]; omega) (fun a h => Classical.byContradiction fun hab => by
            by_cases ha : a = h0
            · rw [ha, e10, hp_kk_s] at h; omega
            · rw [e10, hp_kk_n ha, hp_kk_n hab] at h
              exact nn_v (hal9 a ha hab) hi h)
          (fun a h => by
            by_cases ha : a = h0
            · rw [ha, e10, hp_kk_s] at h; omega
            · by_cases hab : a = b7
              · rw [hab, e10, hp_kk_n hb7h, hp_kk_s] at h; omega
              · rw [e10, hp_kk_n ha, hp_kk_n hab] at h ⊢; exact hcol9 a h)
          (fun a h => by
            by_cases ha : a = h0
            · rw [ha, e10, hp_kk_s] at h; omega
            · by_cases hab : a = b7
              · rw [hab, e10, hp_kk_n hb7h, hp_kk_s] at h; omega
              · rw [e10, hp_kk_n ha, hp_kk_n hab] at h; exact h169 a h)
          ⟨fun a h1 h2 => by
            have hab : a ≠ b7 := fun e9 => h1 (by rw [e9]; exact yb2)
            have h3 := hE.1 a h1 h2
            have hao : a ≠ o8 := fun e9 => h1 (by rw [e9]; exact yo8)
            rw [e10, hp_kk_n h2, hp_kk_n hab, hD9.2.1 a (by rw [e8, hp_kk_n hao, h3]; exact h1) hao, e8, hp_kk_n hao]; exact h3, fun a h1 => by
            by_cases hab : a = b7
            · exact Or.inl hab
            · have ha : a ≠ h0 := fun e9 => h0n (by rw [← e9]; exact h1)
              refine Or.inr ?_
              rw [e10, hp_kk_n ha, hp_kk_n hab]
              by_cases hao : a = o8
              · rw [hao, ko9]; exact nn_e hi12
              · by_cases hz8 : κ8 a = 0
                · exact nn_d hi12 (hD9.2.2 a hz8)
                · rw [hD9.2.1 a hz8 hao, e8, hp_kk_n hao]
                  exact (hE.2 a h1).elim (fun h3 => absurd h3 hab) id⟩ hZ (lv_sub hl [1, 0] rfl)
  exact lp 13 0 z9 κ6 _ _ ls (by omega) (by omega) (by omega) k8 k7 hub hcol h16 hE hZ (lv_sub hl [1, 0] rfl)
end
section
theorem hk_t80 {i : Nat} (h : i ≤ 4) : hk_t (80 + i) = (2, 3, 4) := by
  unfold hk_t
  rw [if_neg (by omega), if_neg (by omega), if_neg (by omega), if_pos (by omega)]
theorem hk_t110 {i : Nat} (h : i ≤ 4) : hk_t (110 + i) = (1, 6, 12) := by
  unfold hk_t
  rw [if_neg (by omega), if_neg (by omega), if_neg (by omega), if_neg (by omega), if_pos (by omega)]
theorem hk_s110 : ∀ i, i < 5 → hk_s (110 + i) 3 = (4, 80 + i) := by decide +kernel
theorem hk_row80 : ∀ i, i < 4 → ∀ j, j < 4 → j ≠ i → hk_s (81 + i) j = hk_s (80 + i) j ∧ (hk_s (80 + i) j).1 ≠ 0 := by decide +kernel
theorem hk_rowi80 : ∀ i, i < 4 → hk_s (81 + i) i = (4, 5 + i) := by decide +kernel
theorem hk_row110 : ∀ i, i < 4 → ∀ j, j < 12 → j ≠ 3 → hk_s (111 + i) j = hk_s (110 + i) j ∧ (hk_s (110 + i) j).1 ≠ 0 ∧ hk_s (110 + i) j ≠ (4, 80 + i) := by decide +kernel
section HPU
variable {p : Program} {l : Launch} {e : Env} {R : Room} {s : State} {m : MethodId} {args : Array Value} {below : List Frame} {meth : Method} {c : Code} {H : Heap} {locs : List Loc} {cells slots : Nat} {Q : State → Prop}
variable {cc : ByteArray} {pc : Nat} {ls : Array Slot} {rest st0 : List Value}
variable {dC : Nat → ClassId} {dI : Nat → Nat → Nat} {dA : Nat → ClassId} {κ : Nat → Nat} {B : Nat} {g : Nat → Nat → Int} {H0 : Heap} {a a0 : Nat}
abbrev hp_QU (dC : Nat → ClassId) (dI : Nat → Nat → Nat) (dA : Nat → ClassId) (B : Nat) (g : Nat → Nat → Int) (D : (Nat → Nat) → Prop) : Array Value → State → Outcome → State → Prop := va_Qv D (fun κ' t => hp_T dC dI dA κ' B g t) (hp_A B)
theorem hp_callU {mc ms : Nat} {D : (Nat → Nat) → Prop} {av : Array Value} (hr : va_Run p l e R s m args below meth c H locs cells slots mc ms (F0 m pc ls st0) rest (hp_QU dC dI dA B g D av) (hp_A B)) (hZ : hp_Z dC dI dA κ B g H0 H locs)
    (kk : ∀ (κ' : Nat → Nat) (H1 : Heap) (locs1 : List Loc), D κ' → hp_Z dC dI dA κ' B g H0 H1 locs1 → W p l e R s m args below meth c H1 locs1 (cells + mc) (slots + ms) Q (F0 m (pc + 3) ls (rest))) : W p l e R s m args below meth c H locs cells slots Q (F0 m pc ls (st0)) :=
  va_callv hr hZ.2.2.2.2.2 (fun _ _ h => h) (fun _ h => h) (fun u t H1 locs1 ht hvm hp hb' _ _ hS => kk u H1 locs1 hp ⟨hb'.1.2.2.1, hb'.2.1, hb'.2.2.1, by rw [← ht]; exact hb'.2.2.2.1, by obtain ⟨⟨-, -, -, h⟩, -⟩ := hb'; rw [ht] at h; exact h, hS⟩)
theorem hp_Uret (hx : p.tables.exec = Jvm.exec) (hb : c.code = cc) {κ' : Nat → Nat} {D : (Nat → Nat) → Prop} (hK : va_K (dC, dI) vwCl (hp_ty dA) s) (hN : hp_N s) (hAO : va_AO RX4 s ∧ va_AO RX2 s) (hlocks : meth.locks = false) (hZ : hp_Z dC dI dA κ' B g s.heap H locs) (hr : meth.sig.returnType = none) (hD : D κ') (hdg : decode cc pc = .ok (.return_, 1)) : W p l e R s m args below meth c H locs cells slots (MQ below (hp_QU dC dI dA B g D) args s cells slots (hp_A B)) (F0 m pc ls []) :=
  W.vret hx hb hr (fun t ht hw => ⟨⟨κ', rfl, hD, hp_T.of hK hN hAO hZ ht hw⟩, hZ.2.2.2.2.2.F ht⟩) hZ.2.2.2.2.2.2.2 hdg hlocks
set_option maxHeartbeats 1000000 in
/-- bytes of any byte array, laid into a Contents' bytes -/
theorem hp_copyg (hx : p.tables.exec = Jvm.exec) (hb : c.code = cc) (hml : c.maxLocals = ls.size) {own : String} {index : Nat} (hown : s.vm.findClass own = some m.cls) (hlink : (Cond.methodLink own index arraycopyName).before args s = true) (hnat : (Cond.native arraycopyName).before args s = true) (hstat : (Cond.static arraycopyName).before args s = true) (hini : (Cond.initialized "java/lang/System").before args s = true)
    (hK : va_K (dC, dI) vwCl (hp_ty dA) s) (hW : hp_W κ B) (hJ : hp_J dC dI dA κ B g H0 H locs) {cs : Cell} (hcs : H[a0]? = some cs) (harr : s.isArrayOf cs .byte) (hkn : cs.vm ≠ .unknown) (hκ : κ a = 373)
    {sp dp n : Int32} (h1 : 0 ≤ sp.toInt) (h2 : 0 ≤ dp.toInt) (h3 : 0 ≤ n.toInt) (h4 : sp.toInt + n.toInt ≤ (cs.slots.size : Int)) (h5 : dp.toInt + n.toInt ≤ 420) (hel : ∀ i : Nat, (i : Int) < sp.toInt + n.toInt → ∃ x : Int32, cs.slots[i]? = some (.int x) ∧ -128 ≤ x.toInt ∧ x.toInt ≤ 127)
    (hframes : 1 ≤ R.frames) (hlocals : (rest.map fun v => v.category).sum + (nativeFrameWords "java/lang/System" "arraycopy" 5 + 11) ≤ R.locals) (hdg : decode cc pc = .ok (.invokestatic index, 3))
    (kk : ∀ (H1 : Heap) (locs1 : List Loc), hp_J dC dI dA κ B g H0 H1 locs1 → W p l e R s m args below meth c H1 locs1 cells slots Q (F0 m (pc + 3) ls rest)) : W p l e R s m args below meth c H locs cells slots Q (F0 m pc ls (.int n :: .int dp :: .ref a :: .int sp :: .ref a0 :: rest)) := by
  intro T hT X
  obtain ⟨⟨F, hM, hO⟩, hS⟩ := hJ
  have hd0 := hM a
  rw [hκ] at hd0
  have hd : H[a]? = some (arrV (dA 1) 420 (F a)) := hd0
  obtain ⟨ho0, k0, hk0, cm0, hkk0⟩ := harr
  obtain ⟨ho1, k1, hk1, cm1, hkk1⟩ := (hK.2 1 _ rfl).1 420 (F a)
  have c1 := hi_cl h1
  have c2 := hi_cl h2
  have c3 := hi_cl h3
  have hget : ∀ i : Nat, i < n.toNatClampNeg → ∃ x : Int32, cs.slots.getD (sp.toNatClampNeg + i) .null = .int x ∧ -128 ≤ x.toInt ∧ x.toInt ≤ 127 := by
    intro i hi
    obtain ⟨x, hx1, hx2⟩ := hel (sp.toNatClampNeg + i) (by omega)
    exact ⟨x, by rw [Array.getD_eq_getD_getElem?, hx1]; rfl, hx2⟩
  obtain ⟨vm', X', step⟩ := X.arraycopy hx hown hlink hnat hstat hini (src := a0) (dst := a) (cs := cs) (cd := arrV (dA 1) 420 (F a)) (srcPos := sp) (destPos := dp) (n := n) (by rw [hT]; exact hcs) (by rw [hT]; exact hd)
    ho0 ho1 hkn (fun h => by cases h) hk0 hk1 hkk0 hkk1 rfl (hi_nn h1) (hi_nn h2) (hi_nn h3) (by omega) (by rw [arrV_size]; omega)
    (fun vm₁ _ i hi => by
      obtain ⟨x, hx1, hx2, hx3⟩ := hget i hi
      rw [hx1]
      exact ⟨hi_fb hx2 hx3, trivial⟩)
    (g := F0 m pc ls (.int n :: .int dp :: .ref a :: .int sp :: .ref a0 :: rest)) rfl (by rw [hml]) (rest := rest) rfl (by rw [hb]; exact hdg) hframes (by show 2 * 0 + _ + _ ≤ _; omega)
  obtain ⟨V, hV, hVb⟩ : ∃ V : Nat → Value, copied cs (arrV (dA 1) 420 (F a)) sp dp n = arrV (dA 1) 420 V ∧ ∀ k, k < 420 → hs_ok κ (g 373 k) (5, 0) (V k) := by
    refine ⟨_, ((show copied cs (arrV (dA 1) 420 (F a)) sp dp n = (arrV (dA 1) 420 (F a)).storePairs dp.toNatClampNeg ((cs.stretch sp.toNatClampNeg n.toNatClampNeg).zipIdx 0) from rfl).trans (va_pairs _ _ _ _ _ _)), fun k hk => ?_⟩
    have hlen : (cs.stretch sp.toNatClampNeg n.toNatClampNeg).length = n.toNatClampNeg := by
      unfold Cell.stretch
      simp
    split
    · next hc =>
      rw [hlen] at hc
      obtain ⟨x, hx1, hx2, hx3⟩ := hget (k - (dp.toNatClampNeg + 0)) (by omega)
      refine ⟨x, ?_, hx2, hx3⟩
      rw [← hx1]
      unfold Cell.stretch
      rw [List.getD_eq_getElem?_getD, List.getElem?_map, List.getElem?_range (by omega)]
      rfl
    · have h9 := hO a k
      rw [hκ] at h9
      exact h9 hk
  rw [hV] at X' step
  have hl : a < H.size := (Array.getElem?_eq_some_iff.mp hd).1
  have hheap : ((T.setVm vm').setCell a (arrV (dA 1) 420 V)).heap = H.setIfInBounds a (arrV (dA 1) 420 V) := by rw [← hT]; rfl
  have oq : ∀ q : Nat, q ≠ a → (H.setIfInBounds a (arrV (dA 1) 420 V))[q]? = H[q]? := fun q hq => by simp [Array.getElem?_setIfInBounds, Ne.symm hq]
  have hBa : B ≤ a := hW.1 a (by rw [hκ]; decide)
  have hM' : hp_M dC dI dA κ (fun b => if b = a then V else F b) (H.setIfInBounds a (arrV (dA 1) 420 V)) := by
    intro b
    by_cases hq : b = a
    · subst hq
      dsimp only
      rw [if_pos rfl, hκ]
      show (H.setIfInBounds b (arrV (dA 1) 420 V))[b]? = some (arrV (dA 1) 420 V)
      simp [Array.getElem?_setIfInBounds, hl]
    · dsimp only
      rw [if_neg hq]
      exact (hM b).kept (oq b hq)
  have hO' : hp_O κ g (fun b => if b = a then V else F b) := by
    intro b k hk
    by_cases hq : b = a
    · subst hq
      dsimp only
      rw [if_pos rfl, hκ]
      rw [hκ] at hk
      exact hVb k hk
    · dsimp only
      rw [if_neg hq]
      exact hO b k hk
  obtain ⟨t, a1, b1⟩ := kk _ _ ⟨⟨_, hM', hO'⟩, by simpa using hS.1, fun q g1 g2 => by
      rw [oq q (fun e => g2 (by rw [e]; exact hBa))]
      exact hS.2.1 q g1 g2, fun q hq => by
      rcases List.mem_append.mp hq with h | h
      · exact hS.2.2 q h
      · obtain ⟨z, -, hz⟩ := List.mem_map.mp h
        rw [← hz]
        exact hBa⟩ _ hheap X'
  exact ⟨t, step t a1, b1⟩

end HPU
section HPF4
variable {dC : Nat → ClassId} {dI : Nat → Nat → Nat} {dA : Nat → ClassId} {κ : Nat → Nat} {B : Nat} {g : Nat → Nat → Int} {H0 H : Heap} {locs : List Loc}
theorem hp_fin4 {b h0 : Nat} (hZ : hp_Z dC dI dA κ B g H0 H locs) (kb : κ b = 80 + 4) (kh : κ h0 = 110 + 4) (hub : ∀ a, κ a = 80 + 4 → a = b) (hu : ∀ a, κ a ≠ 1) (hg : ∀ k : Nat, g 1 k = 0) (hal : ∀ a, a ≠ h0 → κ a < 40 ∨ (κ a = 84 ∧ a = b) ∨ 300 ≤ κ a) : hp_Z dC dI dA (hp_kk (hp_kk κ b 15) h0 1) B g H0 H locs := by
  have hbh : b ≠ h0 := fun e => by rw [e, kh] at kb; omega
  obtain ⟨κ', eκ⟩ : ∃ z, z = hp_kk (hp_kk κ b 15) h0 1 := ⟨_, rfl⟩
  rw [← eκ]
  have c1 : κ' h0 = 1 := by rw [eκ]; exact hp_kk_s _ _ _
  have c2 : κ' b = 15 := by rw [eκ, hp_kk_n hbh]; exact hp_kk_s _ _ _
  have c3 : ∀ a, a ≠ h0 → a ≠ b → κ' a = κ a := fun a h1 h2 => by rw [eκ, hp_kk_n h1, hp_kk_n h2]
  have hcase : ∀ (P : Nat → Prop), P h0 → P b → (∀ a, a ≠ h0 → a ≠ b → P a) → ∀ a, P a := by
    intro P p1 p2 p3 a
    by_cases h : a = h0
    · rw [h]; exact p1
    · by_cases h' : a = b
      · rw [h']; exact p2
      · exact p3 a h h'
  have hmono : ∀ {e : Int} {sp : Nat × Nat} {w : Value}, sp ≠ (4, 84) → sp ≠ (4, 114) → hs_ok κ e sp w → hs_ok κ' e sp w := by
    intro e sp w h1 h2 h
    refine h.mono (fun h4 x hx => ?_)
    by_cases hxs : x = h0
    · rw [hxs, kh] at hx
      exact absurd (Prod.ext h4 hx.symm) h2
    · by_cases hxb : x = b
      · rw [hxb, kb] at hx
        exact absurd (Prod.ext h4 hx.symm) h1
      · rw [c3 x hxs hxb]; exact hx
  refine hp_re hZ (hcase _ (by rw [c1, kh]; rfl) (by rw [c2, kb]; rfl) (fun a h h' => by rw [c3 a h h'])) (hcase _ (fun _ => by rw [kh]; omega) (fun _ => by rw [kb]; omega) (fun a h h' => by rw [c3 a h h']; exact id)) (hcase _ (by rw [c1]; exact Or.inr (by decide)) (by rw [c2]; exact Or.inr (by decide)) (fun a h h' => by rw [c3 a h h']; exact hZ.2.1 a)) (hcase _ (by rw [c1]; unfold hk_ok; omega) (by rw [c2]; unfold hk_ok; omega) (fun a h h' => by rw [c3 a h h']; exact hZ.2.2.1 a)) ?_ ?_
  · intro a a' ha hab
    by_cases h : a = h0
    · by_cases g1 : a' = h0
      · rw [h, g1]
      · by_cases g2 : a' = b
        · rw [h, c1, g2, c2] at hab; omega
        · rw [h, c1, c3 a' g1 g2] at hab; exact absurd hab.symm (hu a')
    · by_cases h' : a = b
      · rw [h', c2] at ha; exact absurd ha (by decide)
      · rw [c3 a h h'] at ha hab
        by_cases g1 : a' = h0
        · rw [g1, c1] at hab; exact absurd hab (hu a)
        · by_cases g2 : a' = b
          · rw [g2, c2] at hab; rw [hab] at ha; exact absurd ha (by decide)
          · rw [c3 a' g1 g2] at hab
            exact hZ.1.2 a a' ha hab
  · intro a k v hk h
    by_cases ha : a = h0
    · subst ha
      rw [kh] at hk h
      rw [c1]
      have hk : k < 12 := hk
      have hex : ∀ j : Nat, hs_ok κ (g 114 j) (2, 0) v → hs_ok κ' (g 1 j) (0, 0) v := fun j h => by
        obtain ⟨x, h1, h2, h3⟩ := (show ∃ x : Int32, v = .int x ∧ 0 ≤ x.toInt ∧ x.toInt ≤ ((0 : Nat) : Int) from h)
        exact ⟨x, h1, (show x.toInt = g 1 j by rw [hg]; omega)⟩
      match k, hk, h with
      | 0, _, h => exact hmono (sp := (4, 12)) (by decide) (by decide) h
      | 1, _, h => exact hex 1 h
      | 2, _, h => exact hmono (sp := (4, 333)) (by decide) (by decide) h
      | 3, _, h =>
        obtain ⟨x, h1, h2⟩ := (show ∃ x : Nat, v = .ref x ∧ κ x = 84 from h)
        exact ⟨x, h1, by rw [hub x h2]; exact c2⟩
      | 4, _, h => exact hmono (sp := (4, 10)) (by decide) (by decide) h
      | 5, _, h => exact hmono (sp := (4, 3)) (by decide) (by decide) h
      | 6, _, h => exact hmono (sp := (4, 4)) (by decide) (by decide) h
      | 7, _, h => exact h
      | 8, _, h => exact h
      | 9, _, h => exact h
      | 10, _, h => exact hex 10 h
      | 11, _, h => exact hex 11 h
    · by_cases hab : a = b
      · subst hab
        rw [kb] at hk h
        rw [c2]
        have hk : k < 4 := hk
        match k, hk, h with
        | 0, _, h => exact hmono (sp := (4, 5)) (by decide) (by decide) h
        | 1, _, h => exact hmono (sp := (4, 6)) (by decide) (by decide) h
        | 2, _, h => exact hmono (sp := (4, 7)) (by decide) (by decide) h
        | 3, _, h => exact hmono (sp := (4, 8)) (by decide) (by decide) h
      · rw [c3 a ha hab]
        refine hmono (fun h9 => ?_) (fun h9 => ?_) h
        · have h5 := hk_sr (hZ.2.2.1 a) h9 hk
          have := hal a ha
          omega
        · have h5 := hk_sr (hZ.2.2.1 a) h9 hk
          have := hal a ha
          omega
end HPF4
end
section
theorem iX7_init_X7 : ∀ w ∈ wsX70, w ∈ wsX7_init := fun _ h => List.mem_cons_of_mem _ (List.mem_append_right _ h)
set_option maxRecDepth 100000 in
set_option maxHeartbeats 4000000 in
theorem c_X7_init (l : Launch) (dC : Nat → ClassId) (dI : Nat → Nat → Nat) (dA : Nat → ClassId) (κ : Nat → Nat) (B : Nat) (g : Nat → Nat → Int) (h0 : Nat) (k0 : κ h0 = 200) (hal : ∀ a, a ≠ h0 → (κ a ≤ 17 ∧ κ a ≠ 11) ∨ 300 ≤ κ a) (hg : ∀ a b : Nat, (a = 11 ∧ (b = 1 ∨ b = 13 ∨ b = 19 ∨ b = 20 ∨ b = 22)) → g a b = 0) (hg2 : g 11 23 = -1) (hga : ∀ a b : Nat, 20 ≤ a → a ≤ 25 → g a b = 0) : Met l yX7_init wsX7_init ({ frames := 1, cells := 15, slots := 9149, locals := 12 } : Room) (hp_PT dC dI dA κ B g [.ref h0]) (hp_QU dC dI dA B g (fun κ' => κ' h0 = 11 ∧ (∀ a, κ a ≠ 0 → a ≠ h0 → κ' a = κ a) ∧ ∀ a, κ a = 0 → κ' a = 0 ∨ (18 ≤ κ' a ∧ κ' a ≤ 30) ∨ κ' a = 38 ∨ κ' a = 39)) 15 9149 (hp_A B) := by
  refine Met.ofW (cc := cX7_init) (maxL := 2) (ret := none) (by decide) rfl ?_
  intro p e s m args below meth c s₁ Bd hml hv
  obtain ⟨rfl, ⟨hK, hN, hW, hF⟩, hV, hKk, hBz, hAO⟩ := hv
  have hx := Bd.exec
  have hb := Bd.bytes
  have hr := Bd.returns
  have hts := atoms_spec (ws := wsX7_init) Bd.pre
  have hown : s.vm.findClass RX7 = some m.cls := findClass_of_methodNamed Bd.named
  have hlocks := Bd.notSynchronized
  have hin : meth.name = "<init>" := (name_of_methodNamed Bd.named Bd.method).1
  have hZ : hp_Z dC dI dA κ B g s.heap s.heap [] := ⟨hW, hV, hKk, hBz, hF, va_S.rf⟩
  have hl := lv_entry ([Value.ref h0]) (n := 2) (Nat.le_of_ble_eq_true rfl)
  rw [lg_entry_eq]
  generalize (lg_sl ([Value.ref h0]) ++ List.replicate (2 - (lg_sl ([Value.ref h0])).length) Slot.unset).toArray = ls at hl ⊢
  have hl : lv_has ls 2 [(0, .ref h0)] := hl
  have hE : hp_EN (fun n => n = 0) κ κ h0 h0 := en_rf (show 0 = 0 from by omega)
  have h0n : κ h0 ≠ 0 := by rw [k0]; omega
  refine lv_aload_n hx hb dX7_init_0 rfl (lv_at hl 0 rfl) ?_
  refine W.objInit hx hb hown (hts (.methodLink RX7 1 objectInit) (List.mem_of_getElem? (i := 1) rfl)) (hts (.instanceMethod objectInit) (List.mem_of_getElem? (i := 2) rfl)) (hts (.code objectInit ⟨#[0xb1]⟩ 1 none) (List.mem_of_getElem? (i := 3) rfl)) rfl (by rw [hml]; exact hl.1) rfl dX7_init_1 (Nat.le_of_ble_eq_true rfl) (Nat.le_of_ble_eq_true rfl) ?_
  have hm : ∀ a, a ≠ h0 → (κ a ≤ 17 ∧ κ a ≠ 11) ∨ 300 ≤ κ a := hal
  have hQ : ∀ a, κ a ≠ 0 → a ≠ h0 → κ a = κ a := fun _ _ _ => rfl
  have hR : ∀ a, κ a = 0 → κ a = 0 ∨ (18 ≤ κ a ∧ κ a ≤ 30) ∨ κ a = 38 ∨ κ a = 39 := fun a h => Or.inl h
  refine lv_aload_n hx hb dX7_init_4 rfl (lv_at hl 0 rfl) ?_
  refine hq_sipush hx hb dX7_init_5 (by decide) (fun z1 ez1 => ?_)
  refine hp_newi (atype := .byte) (ty := 1) (N := 700) (kd := 38) hx hb (hts (.arrayClass .byte) (List.mem_of_getElem? (i := 4) rfl)) hK hZ (hK.2 1 _ rfl).2 rfl (by unfold hk_ok; omega) (fun _ k _ => ⟨0, rfl, by decide, by decide⟩) (fun _ a h9 => by by_cases ha : a = h0; (rw [ha, k0] at h9; omega); (have := hm a ha; omega)) (by omega) (by show 700 * 1 ≤ 536870912; omega) (by show 0 + 1 ≤ 15; omega) (by show 0 + 700 ≤ 9149; omega) dX7_init_8 (fun b2 H zb2 hZ => ?_)
  refine W.cs (cells' := 1) (slots' := 700) (by omega) (by omega) ?_
  obtain ⟨κ3, eκ3⟩ : ∃ z, z = hp_kk κ b2 (38) := ⟨_, rfl⟩
  rw [← eκ3] at hZ
  have k4 : κ3 h0 = 200 := by rw [eκ3, hp_kk_n (ne_k k0 zb2 (by omega))]; exact k0
  have k5 : κ3 b2 = 38 := by rw [eκ3]; exact hp_kk_s _ _ _
  have hm : ∀ a, a ≠ h0 → (κ3 a ≤ 17 ∧ κ3 a ≠ 11) ∨ κ3 a = 38 ∨ κ3 a = 39 ∨ 300 ≤ κ3 a := by
    intro a ha
    by_cases hab : a = b2
    · rw [hab, k5]; omega
    · rw [eκ3, hp_kk_n hab]; have := hm a ha; omega
  have hR : ∀ a, κ a = 0 → κ3 a = 0 ∨ (18 ≤ κ3 a ∧ κ3 a ≤ 30) ∨ κ3 a = 38 ∨ κ3 a = 39 := by
    intro a ha
    by_cases hab : a = b2
    · rw [hab, k5]; omega
    · rw [eκ3, hp_kk_n hab]; exact hR a ha
  have hQ : ∀ a, κ a ≠ 0 → a ≠ h0 → κ3 a = κ a := fun a h1 h2 => by rw [eκ3, hp_kk_n (fun e9 => h1 (by rw [← hQ a h1 h2, e9, zb2])), hQ a h1 h2]
  refine hp_putF (C := RX7) (T := TX7) (N := 24) (ci := 7) (kd := 200) hx hb hts iX7_init_X7 hown hK hZ.2.2.2.2 k4 (rfl : hk_t 200 = (1, 7, 24)) rfl 0 (by decide) (hts (.fieldLink RX7 7 "NeighborBookModel" "typed" "[B") (List.mem_of_getElem? (i := 5) rfl)) (fun _ h9 => h9) tyX7 tyX7_ok nmX7 (v := .ref b2) rfl rfl (by omega) hZ.1 rfl hin rfl dX7_init_10 (fun F H locs hM hO hS => ?_)
  have hZ := hp_step (k1 := 200) (k2 := 201) hZ.1 hZ.2.1 hZ.2.2.1 (Nat.le_trans hBz hS.1) hM hO hS k4 ((rfl : hk_t 201 = (1, 7, 24)).trans (rfl : hk_t 200 = (1, 7, 24)).symm) (by unfold hk_ok; omega) (by rw [(rfl : hk_t 201 = (1, 7, 24))]; decide) (fun a j hj _ h => by have := hk_sr (hZ.2.2.1 a) h hj; omega) (fun j hj h => by have := hk_sr (kd := 201) (by unfold hk_ok; omega) h hj; omega) ⟨b2, rfl, k5⟩ (fun j hj hl w hw => by
        have hl : j < 24 := by rw [(rfl : hk_t 200 = (1, 7, 24))] at hl; exact hl
        match j, hj, hl, hw with
        | 1, _, _, hw => exact hw
        | 2, _, _, hw => exact hw
        | 3, _, _, hw => exact hw
        | 4, _, _, hw => exact hw
        | 5, _, _, hw => exact hw
        | 6, _, _, hw => exact hw
        | 7, _, _, hw => exact hw
        | 8, _, _, hw => exact hw
        | 9, _, _, hw => exact hw
        | 10, _, _, hw => exact hw
        | 11, _, _, hw => exact hw
        | 12, _, _, hw => exact hw
        | 13, _, _, hw => exact hw
        | 14, _, _, hw => exact hw
        | 15, _, _, hw => exact hw
        | 16, _, _, hw => exact hw
        | 17, _, _, hw => exact hw
        | 18, _, _, hw => exact hw
        | 19, _, _, hw => exact hw
        | 20, _, _, hw => exact hw
        | 21, _, _, hw => exact hw
        | 22, _, _, hw => exact hw
        | 23, _, _, hw => exact hw
        | 0, hj, _, _ => exact absurd rfl hj
        | n9 + 24, _, hl, _ => exact absurd hl (by omega)) (fun h => absurd h (by decide))
  obtain ⟨κ6, eκ6⟩ : ∃ z, z = hp_kk κ3 h0 (201) := ⟨_, rfl⟩
  rw [← eκ6] at hZ
  have k7 : κ6 b2 = 38 := by rw [eκ6, hp_kk_n (fun h9 => by rw [h9, k4] at k5; omega)]; exact k5
  have k8 : κ6 h0 = 201 := by rw [eκ6]; exact hp_kk_s _ _ _
  have hm : ∀ a, a ≠ h0 → (κ6 a ≤ 17 ∧ κ6 a ≠ 11) ∨ κ6 a = 38 ∨ κ6 a = 39 ∨ 300 ≤ κ6 a := fun a ha => by rw [eκ6, hp_kk_n ha]; exact hm a ha
  have hR : ∀ a, κ a = 0 → κ6 a = 0 ∨ (18 ≤ κ6 a ∧ κ6 a ≤ 30) ∨ κ6 a = 38 ∨ κ6 a = 39 := fun a ha => by rw [eκ6, hp_kk_n (fun e9 => h0n (by rw [← e9]; exact ha))]; exact hR a ha
  have hQ : ∀ a, κ a ≠ 0 → a ≠ h0 → κ6 a = κ a := fun a h1 h2 => by rw [eκ6, hp_kk_n h2, hQ a h1 h2]
  refine lv_aload_n hx hb dX7_init_13 rfl (lv_at hl 0 rfl) ?_
  refine hq_sipush hx hb dX7_init_14 (by decide) (fun z9 ez9 => ?_)
  refine hp_newi (atype := .byte) (ty := 1) (N := 540) (kd := 18) hx hb (hts (.arrayClass .byte) (List.mem_of_getElem? (i := 4) rfl)) hK hZ (hK.2 1 _ rfl).2 rfl (by unfold hk_ok; omega) (fun _ k _ => ⟨0, rfl, by decide, by decide⟩) (fun h => absurd h (by decide)) (by omega) (by show 540 * 1 ≤ 536870912; omega) (by show 1 + 1 ≤ 15; omega) (by show 700 + 540 ≤ 9149; omega) dX7_init_17 (fun b10 H zb10 hZ => ?_)
  refine W.cs (cells' := 2) (slots' := 1240) (by omega) (by omega) ?_
  obtain ⟨κ11, eκ11⟩ : ∃ z, z = hp_kk κ6 b10 (18) := ⟨_, rfl⟩
  rw [← eκ11] at hZ
  have k12 : κ11 h0 = 201 := by rw [eκ11, hp_kk_n (ne_k k8 zb10 (by omega))]; exact k8
  have k13 : κ11 b10 = 18 := by rw [eκ11]; exact hp_kk_s _ _ _
  have hm : ∀ a, a ≠ h0 → (κ11 a ≤ 18 ∧ κ11 a ≠ 11) ∨ κ11 a = 38 ∨ κ11 a = 39 ∨ 300 ≤ κ11 a := by
    intro a ha
    by_cases hab : a = b10
    · rw [hab, k13]; omega
    · rw [eκ11, hp_kk_n hab]; have := hm a ha; omega
  have hR : ∀ a, κ a = 0 → κ11 a = 0 ∨ (18 ≤ κ11 a ∧ κ11 a ≤ 30) ∨ κ11 a = 38 ∨ κ11 a = 39 := by
    intro a ha
    by_cases hab : a = b10
    · rw [hab, k13]; omega
    · rw [eκ11, hp_kk_n hab]; exact hR a ha
  have hQ : ∀ a, κ a ≠ 0 → a ≠ h0 → κ11 a = κ a := fun a h1 h2 => by rw [eκ11, hp_kk_n (fun e9 => h1 (by rw [← hQ a h1 h2, e9, zb10])), hQ a h1 h2]
  refine hp_putF (C := RX7) (T := TX7) (N := 24) (ci := 7) (kd := 201) hx hb hts iX7_init_X7 hown hK hZ.2.2.2.2 k12 (rfl : hk_t 201 = (1, 7, 24)) rfl 2 (by decide) (hts (.fieldLink RX7 13 "NeighborBookModel" "own" "[B") (List.mem_of_getElem? (i := 6) rfl)) (fun _ h9 => h9) tyX7 tyX7_ok nmX7 (v := .ref b10) rfl rfl (by omega) hZ.1 rfl hin rfl dX7_init_19 (fun F H locs hM hO hS => ?_)
  have hZ := hp_step (k1 := 201) (k2 := 202) hZ.1 hZ.2.1 hZ.2.2.1 (Nat.le_trans hBz hS.1) hM hO hS k12 ((rfl : hk_t 202 = (1, 7, 24)).trans (rfl : hk_t 201 = (1, 7, 24)).symm) (by unfold hk_ok; omega) (by rw [(rfl : hk_t 202 = (1, 7, 24))]; decide) (fun a j hj _ h => by have := hk_sr (hZ.2.2.1 a) h hj; omega) (fun j hj h => by have := hk_sr (kd := 202) (by unfold hk_ok; omega) h hj; omega) ⟨b10, rfl, k13⟩ (fun j hj hl w hw => by
        have hl : j < 24 := by rw [(rfl : hk_t 201 = (1, 7, 24))] at hl; exact hl
        match j, hj, hl, hw with
        | 0, _, _, hw => exact hw
        | 1, _, _, hw => exact hw
        | 3, _, _, hw => exact hw
        | 4, _, _, hw => exact hw
        | 5, _, _, hw => exact hw
        | 6, _, _, hw => exact hw
        | 7, _, _, hw => exact hw
        | 8, _, _, hw => exact hw
        | 9, _, _, hw => exact hw
        | 10, _, _, hw => exact hw
        | 11, _, _, hw => exact hw
        | 12, _, _, hw => exact hw
        | 13, _, _, hw => exact hw
        | 14, _, _, hw => exact hw
        | 15, _, _, hw => exact hw
        | 16, _, _, hw => exact hw
        | 17, _, _, hw => exact hw
        | 18, _, _, hw => exact hw
        | 19, _, _, hw => exact hw
        | 20, _, _, hw => exact hw
        | 21, _, _, hw => exact hw
        | 22, _, _, hw => exact hw
        | 23, _, _, hw => exact hw
        | 2, hj, _, _ => exact absurd rfl hj
        | n9 + 24, _, hl, _ => exact absurd hl (by omega)) (fun h => absurd h (by decide))
  obtain ⟨κ14, eκ14⟩ : ∃ z, z = hp_kk κ11 h0 (202) := ⟨_, rfl⟩
  rw [← eκ14] at hZ
  have k15 : κ14 b10 = 18 := by rw [eκ14, hp_kk_n (fun h9 => by rw [h9, k12] at k13; omega)]; exact k13
  have k16 : κ14 h0 = 202 := by rw [eκ14]; exact hp_kk_s _ _ _
  have hm : ∀ a, a ≠ h0 → (κ14 a ≤ 18 ∧ κ14 a ≠ 11) ∨ κ14 a = 38 ∨ κ14 a = 39 ∨ 300 ≤ κ14 a := fun a ha => by rw [eκ14, hp_kk_n ha]; exact hm a ha
  have hR : ∀ a, κ a = 0 → κ14 a = 0 ∨ (18 ≤ κ14 a ∧ κ14 a ≤ 30) ∨ κ14 a = 38 ∨ κ14 a = 39 := fun a ha => by rw [eκ14, hp_kk_n (fun e9 => h0n (by rw [← e9]; exact ha))]; exact hR a ha
  have hQ : ∀ a, κ a ≠ 0 → a ≠ h0 → κ14 a = κ a := fun a h1 h2 => by rw [eκ14, hp_kk_n h2, hQ a h1 h2]
  refine lv_aload_n hx hb dX7_init_22 rfl (lv_at hl 0 rfl) ?_
  refine hq_bipush hx hb dX7_init_23 (by decide) (fun z17 ez17 => ?_)
  refine hp_newi (atype := .int) (ty := 0) (N := 9) (kd := 19) hx hb (hts (.arrayClass .int) (List.mem_of_getElem? (i := 7) rfl)) hK hZ (hK.2 0 _ rfl).2 rfl (by unfold hk_ok; omega) (fun _ k _ => ⟨0, rfl, (show -1 ≤ (0 : Int32).toInt ∧ (0 : Int32).toInt ≤ ((60 : Nat) : Int) by decide)⟩) (fun h => absurd h (by decide)) (by omega) (by show 9 * 4 ≤ 536870912; omega) (by show 2 + 1 ≤ 15; omega) (by show 1240 + 9 ≤ 9149; omega) dX7_init_25 (fun b18 H zb18 hZ => ?_)
  refine W.cs (cells' := 3) (slots' := 1249) (by omega) (by omega) ?_
  obtain ⟨κ19, eκ19⟩ : ∃ z, z = hp_kk κ14 b18 (19) := ⟨_, rfl⟩
  rw [← eκ19] at hZ
  have k20 : κ19 h0 = 202 := by rw [eκ19, hp_kk_n (ne_k k16 zb18 (by omega))]; exact k16
  have k21 : κ19 b18 = 19 := by rw [eκ19]; exact hp_kk_s _ _ _
  have hm : ∀ a, a ≠ h0 → (κ19 a ≤ 19 ∧ κ19 a ≠ 11) ∨ κ19 a = 38 ∨ κ19 a = 39 ∨ 300 ≤ κ19 a := by
    intro a ha
    by_cases hab : a = b18
    · rw [hab, k21]; omega
    · rw [eκ19, hp_kk_n hab]; have := hm a ha; omega
  have hR : ∀ a, κ a = 0 → κ19 a = 0 ∨ (18 ≤ κ19 a ∧ κ19 a ≤ 30) ∨ κ19 a = 38 ∨ κ19 a = 39 := by
    intro a ha
    by_cases hab : a = b18
    · rw [hab, k21]; omega
    · rw [eκ19, hp_kk_n hab]; exact hR a ha
  have hQ : ∀ a, κ a ≠ 0 → a ≠ h0 → κ19 a = κ a := fun a h1 h2 => by rw [eκ19, hp_kk_n (fun e9 => h1 (by rw [← hQ a h1 h2, e9, zb18])), hQ a h1 h2]
  refine hp_putF (C := RX7) (T := TX7) (N := 24) (ci := 7) (kd := 202) hx hb hts iX7_init_X7 hown hK hZ.2.2.2.2 k20 (rfl : hk_t 202 = (1, 7, 24)) rfl 3 (by decide) (hts (.fieldLink RX7 16 "NeighborBookModel" "ownSizes" "[I") (List.mem_of_getElem? (i := 8) rfl)) (fun _ h9 => h9) tyX7 tyX7_ok nmX7 (v := .ref b18) rfl rfl (by omega) hZ.1 rfl hin rfl dX7_init_27 (fun F H locs hM hO hS => ?_)
  have hZ := hp_step (k1 := 202) (k2 := 203) hZ.1 hZ.2.1 hZ.2.2.1 (Nat.le_trans hBz hS.1) hM hO hS k20 ((rfl : hk_t 203 = (1, 7, 24)).trans (rfl : hk_t 202 = (1, 7, 24)).symm) (by unfold hk_ok; omega) (by rw [(rfl : hk_t 203 = (1, 7, 24))]; decide) (fun a j hj _ h => by have := hk_sr (hZ.2.2.1 a) h hj; omega) (fun j hj h => by have := hk_sr (kd := 203) (by unfold hk_ok; omega) h hj; omega) ⟨b18, rfl, k21⟩ (fun j hj hl w hw => by
        have hl : j < 24 := by rw [(rfl : hk_t 202 = (1, 7, 24))] at hl; exact hl
        match j, hj, hl, hw with
        | 0, _, _, hw => exact hw
        | 1, _, _, hw => exact hw
        | 2, _, _, hw => exact hw
        | 4, _, _, hw => exact hw
        | 5, _, _, hw => exact hw
        | 6, _, _, hw => exact hw
        | 7, _, _, hw => exact hw
        | 8, _, _, hw => exact hw
        | 9, _, _, hw => exact hw
        | 10, _, _, hw => exact hw
        | 11, _, _, hw => exact hw
        | 12, _, _, hw => exact hw
        | 13, _, _, hw => exact hw
        | 14, _, _, hw => exact hw
        | 15, _, _, hw => exact hw
        | 16, _, _, hw => exact hw
        | 17, _, _, hw => exact hw
        | 18, _, _, hw => exact hw
        | 19, _, _, hw => exact hw
        | 20, _, _, hw => exact hw
        | 21, _, _, hw => exact hw
        | 22, _, _, hw => exact hw
        | 23, _, _, hw => exact hw
        | 3, hj, _, _ => exact absurd rfl hj
        | n9 + 24, _, hl, _ => exact absurd hl (by omega)) (fun h => absurd h (by decide))
  obtain ⟨κ22, eκ22⟩ : ∃ z, z = hp_kk κ19 h0 (203) := ⟨_, rfl⟩
  rw [← eκ22] at hZ
  have k23 : κ22 b18 = 19 := by rw [eκ22, hp_kk_n (fun h9 => by rw [h9, k20] at k21; omega)]; exact k21
  have k24 : κ22 h0 = 203 := by rw [eκ22]; exact hp_kk_s _ _ _
  have hm : ∀ a, a ≠ h0 → (κ22 a ≤ 19 ∧ κ22 a ≠ 11) ∨ κ22 a = 38 ∨ κ22 a = 39 ∨ 300 ≤ κ22 a := fun a ha => by rw [eκ22, hp_kk_n ha]; exact hm a ha
  have hR : ∀ a, κ a = 0 → κ22 a = 0 ∨ (18 ≤ κ22 a ∧ κ22 a ≤ 30) ∨ κ22 a = 38 ∨ κ22 a = 39 := fun a ha => by rw [eκ22, hp_kk_n (fun e9 => h0n (by rw [← e9]; exact ha))]; exact hR a ha
  have hQ : ∀ a, κ a ≠ 0 → a ≠ h0 → κ22 a = κ a := fun a h1 h2 => by rw [eκ22, hp_kk_n h2, hQ a h1 h2]
  refine lv_aload_n hx hb dX7_init_30 rfl (lv_at hl 0 rfl) ?_
  refine hq_bipush hx hb dX7_init_31 (by decide) (fun z25 ez25 => ?_)
  refine hp_put (C := RX7) (T := TX7) (N := 24) (ci := 7) (kd := 203) hx hb hts iX7_init_X7 hown hK hZ.2.2.2.2 k24 rfl rfl 4 (by decide) (hts (.fieldLink RX7 20 "NeighborBookModel" "interval" "I") (List.mem_of_getElem? (i := 9) rfl)) (fun _ h9 => h9) tyX7 tyX7_ok nmX7 (v := .int z25) rfl rfl (by decide) hZ.1 rfl (hs_i_ok (sp := (1, 0)) rfl trivial) dX7_init_33 (fun H locs hJ => ?_)
  have hZ := (⟨hZ.1, hZ.2.1, hZ.2.2.1, Nat.le_trans hBz hJ.2.1, hJ⟩ : hp_Z dC dI dA κ22 B g s.heap H locs)
  refine lv_aload_n hx hb dX7_init_36 rfl (lv_at hl 0 rfl) ?_
  refine hq_iconst hx hb dX7_init_37 (by decide) (by decide) (fun z26 ez26 => ?_)
  refine hp_put (C := RX7) (T := TX7) (N := 24) (ci := 7) (kd := 203) hx hb hts iX7_init_X7 hown hK hZ.2.2.2.2 k24 rfl rfl 5 (by decide) (hts (.fieldLink RX7 24 "NeighborBookModel" "hold" "I") (List.mem_of_getElem? (i := 10) rfl)) (fun _ h9 => h9) tyX7 tyX7_ok nmX7 (v := .int z26) rfl rfl (by decide) hZ.1 rfl (hs_i_ok (sp := (1, 0)) rfl trivial) dX7_init_38 (fun H locs hJ => ?_)
  have hZ := (⟨hZ.1, hZ.2.1, hZ.2.2.1, Nat.le_trans hBz hJ.2.1, hJ⟩ : hp_Z dC dI dA κ22 B g s.heap H locs)
  refine lv_aload_n hx hb dX7_init_41 rfl (lv_at hl 0 rfl) ?_
  refine hq_iconst hx hb dX7_init_42 (by decide) (by decide) (fun z27 ez27 => ?_)
  refine hp_put (C := RX7) (T := TX7) (N := 24) (ci := 7) (kd := 203) hx hb hts iX7_init_X7 hown hK hZ.2.2.2.2 k24 rfl rfl 6 (by decide) (hts (.fieldLink RX7 27 "NeighborBookModel" "quick" "I") (List.mem_of_getElem? (i := 11) rfl)) (fun _ h9 => h9) tyX7 tyX7_ok nmX7 (v := .int z27) rfl rfl (by decide) hZ.1 rfl (hs_i_ok (sp := (1, 0)) rfl trivial) dX7_init_43 (fun H locs hJ => ?_)
  have hZ := (⟨hZ.1, hZ.2.1, hZ.2.2.1, Nat.le_trans hBz hJ.2.1, hJ⟩ : hp_Z dC dI dA κ22 B g s.heap H locs)
  refine lv_aload_n hx hb dX7_init_46 rfl (lv_at hl 0 rfl) ?_
  refine hq_iconst hx hb dX7_init_47 (by decide) (by decide) (fun z28 ez28 => ?_)
  refine hp_newi (atype := .boolean) (ty := 2) (N := 4) (kd := 20) hx hb (hts (.arrayClass .boolean) (List.mem_of_getElem? (i := 12) rfl)) hK hZ (hK.2 2 _ rfl).2 rfl (by unfold hk_ok; omega) (fun _ k _ => ⟨0, rfl, (show (0 : Int32).toInt = g 20 k by rw [hga 20 k (by decide) (by decide)]; rfl)⟩) (fun _ a h9 => by by_cases ha : a = h0; (rw [ha, k24] at h9; omega); (have := hm a ha; omega)) (by omega) (by show 4 * 1 ≤ 536870912; omega) (by show 3 + 1 ≤ 15; omega) (by show 1249 + 4 ≤ 9149; omega) dX7_init_48 (fun b29 H zb29 hZ => ?_)
  refine W.cs (cells' := 4) (slots' := 1253) (by omega) (by omega) ?_
  obtain ⟨κ30, eκ30⟩ : ∃ z, z = hp_kk κ22 b29 (20) := ⟨_, rfl⟩
  rw [← eκ30] at hZ
  have k31 : κ30 h0 = 203 := by rw [eκ30, hp_kk_n (ne_k k24 zb29 (by omega))]; exact k24
  have k32 : κ30 b29 = 20 := by rw [eκ30]; exact hp_kk_s _ _ _
  have hm : ∀ a, a ≠ h0 → (κ30 a ≤ 20 ∧ κ30 a ≠ 11) ∨ κ30 a = 38 ∨ κ30 a = 39 ∨ 300 ≤ κ30 a := by
    intro a ha
    by_cases hab : a = b29
    · rw [hab, k32]; omega
    · rw [eκ30, hp_kk_n hab]; have := hm a ha; omega
  have hR : ∀ a, κ a = 0 → κ30 a = 0 ∨ (18 ≤ κ30 a ∧ κ30 a ≤ 30) ∨ κ30 a = 38 ∨ κ30 a = 39 := by
    intro a ha
    by_cases hab : a = b29
    · rw [hab, k32]; omega
    · rw [eκ30, hp_kk_n hab]; exact hR a ha
  have hQ : ∀ a, κ a ≠ 0 → a ≠ h0 → κ30 a = κ a := fun a h1 h2 => by rw [eκ30, hp_kk_n (fun e9 => h1 (by rw [← hQ a h1 h2, e9, zb29])), hQ a h1 h2]
  refine hp_putF (C := RX7) (T := TX7) (N := 24) (ci := 7) (kd := 203) hx hb hts iX7_init_X7 hown hK hZ.2.2.2.2 k31 (rfl : hk_t 203 = (1, 7, 24)) rfl 7 (by decide) (hts (.fieldLink RX7 30 "NeighborBookModel" "up" "[Z") (List.mem_of_getElem? (i := 13) rfl)) (fun _ h9 => h9) tyX7 tyX7_ok nmX7 (v := .ref b29) rfl rfl (by omega) hZ.1 rfl hin rfl dX7_init_50 (fun F H locs hM hO hS => ?_)
  have hZ := hp_step (k1 := 203) (k2 := 204) hZ.1 hZ.2.1 hZ.2.2.1 (Nat.le_trans hBz hS.1) hM hO hS k31 ((rfl : hk_t 204 = (1, 7, 24)).trans (rfl : hk_t 203 = (1, 7, 24)).symm) (by unfold hk_ok; omega) (by rw [(rfl : hk_t 204 = (1, 7, 24))]; decide) (fun a j hj _ h => by have := hk_sr (hZ.2.2.1 a) h hj; omega) (fun j hj h => by have := hk_sr (kd := 204) (by unfold hk_ok; omega) h hj; omega) ⟨b29, rfl, k32⟩ (fun j hj hl w hw => by
        have hl : j < 24 := by rw [(rfl : hk_t 203 = (1, 7, 24))] at hl; exact hl
        match j, hj, hl, hw with
        | 0, _, _, hw => exact hw
        | 1, _, _, hw => exact hw
        | 2, _, _, hw => exact hw
        | 3, _, _, hw => exact hw
        | 4, _, _, hw => exact hw
        | 5, _, _, hw => exact hw
        | 6, _, _, hw => exact hw
        | 8, _, _, hw => exact hw
        | 9, _, _, hw => exact hw
        | 10, _, _, hw => exact hw
        | 11, _, _, hw => exact hw
        | 12, _, _, hw => exact hw
        | 13, _, _, hw => exact hw
        | 14, _, _, hw => exact hw
        | 15, _, _, hw => exact hw
        | 16, _, _, hw => exact hw
        | 17, _, _, hw => exact hw
        | 18, _, _, hw => exact hw
        | 19, _, _, hw => exact hw
        | 20, _, _, hw => exact hw
        | 21, _, _, hw => exact hw
        | 22, _, _, hw => exact hw
        | 23, _, _, hw => exact hw
        | 7, hj, _, _ => exact absurd rfl hj
        | n9 + 24, _, hl, _ => exact absurd hl (by omega)) (fun h => absurd h (by decide))
  obtain ⟨κ33, eκ33⟩ : ∃ z, z = hp_kk κ30 h0 (204) := ⟨_, rfl⟩
  rw [← eκ33] at hZ
  have k34 : κ33 b29 = 20 := by rw [eκ33, hp_kk_n (fun h9 => by rw [h9, k31] at k32; omega)]; exact k32
  have k35 : κ33 h0 = 204 := by rw [eκ33]; exact hp_kk_s _ _ _
  have hm : ∀ a, a ≠ h0 → (κ33 a ≤ 20 ∧ κ33 a ≠ 11) ∨ κ33 a = 38 ∨ κ33 a = 39 ∨ 300 ≤ κ33 a := fun a ha => by rw [eκ33, hp_kk_n ha]; exact hm a ha
  have hR : ∀ a, κ a = 0 → κ33 a = 0 ∨ (18 ≤ κ33 a ∧ κ33 a ≤ 30) ∨ κ33 a = 38 ∨ κ33 a = 39 := fun a ha => by rw [eκ33, hp_kk_n (fun e9 => h0n (by rw [← e9]; exact ha))]; exact hR a ha
  have hQ : ∀ a, κ a ≠ 0 → a ≠ h0 → κ33 a = κ a := fun a h1 h2 => by rw [eκ33, hp_kk_n h2, hQ a h1 h2]
  refine lv_aload_n hx hb dX7_init_53 rfl (lv_at hl 0 rfl) ?_
  refine hq_iconst hx hb dX7_init_54 (by decide) (by decide) (fun z36 ez36 => ?_)
  refine hp_newi (atype := .int) (ty := 0) (N := 4) (kd := 21) hx hb (hts (.arrayClass .int) (List.mem_of_getElem? (i := 7) rfl)) hK hZ (hK.2 0 _ rfl).2 rfl (by unfold hk_ok; omega) (fun _ k _ => ⟨0, rfl, (show (0 : Int32).toInt = g 21 k by rw [hga 21 k (by decide) (by decide)]; rfl)⟩) (fun _ a h9 => by by_cases ha : a = h0; (rw [ha, k35] at h9; omega); (have := hm a ha; omega)) (by omega) (by show 4 * 4 ≤ 536870912; omega) (by show 4 + 1 ≤ 15; omega) (by show 1253 + 4 ≤ 9149; omega) dX7_init_55 (fun b37 H zb37 hZ => ?_)
  refine W.cs (cells' := 5) (slots' := 1257) (by omega) (by omega) ?_
  obtain ⟨κ38, eκ38⟩ : ∃ z, z = hp_kk κ33 b37 (21) := ⟨_, rfl⟩
  rw [← eκ38] at hZ
  have k39 : κ38 h0 = 204 := by rw [eκ38, hp_kk_n (ne_k k35 zb37 (by omega))]; exact k35
  have k40 : κ38 b37 = 21 := by rw [eκ38]; exact hp_kk_s _ _ _
  have hm : ∀ a, a ≠ h0 → (κ38 a ≤ 21 ∧ κ38 a ≠ 11) ∨ κ38 a = 38 ∨ κ38 a = 39 ∨ 300 ≤ κ38 a := by
    intro a ha
    by_cases hab : a = b37
    · rw [hab, k40]; omega
    · rw [eκ38, hp_kk_n hab]; have := hm a ha; omega
  have hR : ∀ a, κ a = 0 → κ38 a = 0 ∨ (18 ≤ κ38 a ∧ κ38 a ≤ 30) ∨ κ38 a = 38 ∨ κ38 a = 39 := by
    intro a ha
    by_cases hab : a = b37
    · rw [hab, k40]; omega
    · rw [eκ38, hp_kk_n hab]; exact hR a ha
  have hQ : ∀ a, κ a ≠ 0 → a ≠ h0 → κ38 a = κ a := fun a h1 h2 => by rw [eκ38, hp_kk_n (fun e9 => h1 (by rw [← hQ a h1 h2, e9, zb37])), hQ a h1 h2]
  refine hp_putF (C := RX7) (T := TX7) (N := 24) (ci := 7) (kd := 204) hx hb hts iX7_init_X7 hown hK hZ.2.2.2.2 k39 (rfl : hk_t 204 = (1, 7, 24)) rfl 8 (by decide) (hts (.fieldLink RX7 34 "NeighborBookModel" "sentFrames" "[I") (List.mem_of_getElem? (i := 14) rfl)) (fun _ h9 => h9) tyX7 tyX7_ok nmX7 (v := .ref b37) rfl rfl (by omega) hZ.1 rfl hin rfl dX7_init_57 (fun F H locs hM hO hS => ?_)
  have hZ := hp_step (k1 := 204) (k2 := 205) hZ.1 hZ.2.1 hZ.2.2.1 (Nat.le_trans hBz hS.1) hM hO hS k39 ((rfl : hk_t 205 = (1, 7, 24)).trans (rfl : hk_t 204 = (1, 7, 24)).symm) (by unfold hk_ok; omega) (by rw [(rfl : hk_t 205 = (1, 7, 24))]; decide) (fun a j hj _ h => by have := hk_sr (hZ.2.2.1 a) h hj; omega) (fun j hj h => by have := hk_sr (kd := 205) (by unfold hk_ok; omega) h hj; omega) ⟨b37, rfl, k40⟩ (fun j hj hl w hw => by
        have hl : j < 24 := by rw [(rfl : hk_t 204 = (1, 7, 24))] at hl; exact hl
        match j, hj, hl, hw with
        | 0, _, _, hw => exact hw
        | 1, _, _, hw => exact hw
        | 2, _, _, hw => exact hw
        | 3, _, _, hw => exact hw
        | 4, _, _, hw => exact hw
        | 5, _, _, hw => exact hw
        | 6, _, _, hw => exact hw
        | 7, _, _, hw => exact hw
        | 9, _, _, hw => exact hw
        | 10, _, _, hw => exact hw
        | 11, _, _, hw => exact hw
        | 12, _, _, hw => exact hw
        | 13, _, _, hw => exact hw
        | 14, _, _, hw => exact hw
        | 15, _, _, hw => exact hw
        | 16, _, _, hw => exact hw
        | 17, _, _, hw => exact hw
        | 18, _, _, hw => exact hw
        | 19, _, _, hw => exact hw
        | 20, _, _, hw => exact hw
        | 21, _, _, hw => exact hw
        | 22, _, _, hw => exact hw
        | 23, _, _, hw => exact hw
        | 8, hj, _, _ => exact absurd rfl hj
        | n9 + 24, _, hl, _ => exact absurd hl (by omega)) (fun h => absurd h (by decide))
  obtain ⟨κ41, eκ41⟩ : ∃ z, z = hp_kk κ38 h0 (205) := ⟨_, rfl⟩
  rw [← eκ41] at hZ
  have k42 : κ41 b37 = 21 := by rw [eκ41, hp_kk_n (fun h9 => by rw [h9, k39] at k40; omega)]; exact k40
  have k43 : κ41 h0 = 205 := by rw [eκ41]; exact hp_kk_s _ _ _
  have hm : ∀ a, a ≠ h0 → (κ41 a ≤ 21 ∧ κ41 a ≠ 11) ∨ κ41 a = 38 ∨ κ41 a = 39 ∨ 300 ≤ κ41 a := fun a ha => by rw [eκ41, hp_kk_n ha]; exact hm a ha
  have hR : ∀ a, κ a = 0 → κ41 a = 0 ∨ (18 ≤ κ41 a ∧ κ41 a ≤ 30) ∨ κ41 a = 38 ∨ κ41 a = 39 := fun a ha => by rw [eκ41, hp_kk_n (fun e9 => h0n (by rw [← e9]; exact ha))]; exact hR a ha
  have hQ : ∀ a, κ a ≠ 0 → a ≠ h0 → κ41 a = κ a := fun a h1 h2 => by rw [eκ41, hp_kk_n h2, hQ a h1 h2]
  refine lv_aload_n hx hb dX7_init_60 rfl (lv_at hl 0 rfl) ?_
  refine hq_iconst hx hb dX7_init_61 (by decide) (by decide) (fun z44 ez44 => ?_)
  refine hp_newi (atype := .int) (ty := 0) (N := 4) (kd := 22) hx hb (hts (.arrayClass .int) (List.mem_of_getElem? (i := 7) rfl)) hK hZ (hK.2 0 _ rfl).2 rfl (by unfold hk_ok; omega) (fun _ k _ => ⟨0, rfl, (show (0 : Int32).toInt = g 22 k by rw [hga 22 k (by decide) (by decide)]; rfl)⟩) (fun _ a h9 => by by_cases ha : a = h0; (rw [ha, k43] at h9; omega); (have := hm a ha; omega)) (by omega) (by show 4 * 4 ≤ 536870912; omega) (by show 5 + 1 ≤ 15; omega) (by show 1257 + 4 ≤ 9149; omega) dX7_init_62 (fun b45 H zb45 hZ => ?_)
  refine W.cs (cells' := 6) (slots' := 1261) (by omega) (by omega) ?_
  obtain ⟨κ46, eκ46⟩ : ∃ z, z = hp_kk κ41 b45 (22) := ⟨_, rfl⟩
  rw [← eκ46] at hZ
  have k47 : κ46 h0 = 205 := by rw [eκ46, hp_kk_n (ne_k k43 zb45 (by omega))]; exact k43
  have k48 : κ46 b45 = 22 := by rw [eκ46]; exact hp_kk_s _ _ _
  have hm : ∀ a, a ≠ h0 → (κ46 a ≤ 22 ∧ κ46 a ≠ 11) ∨ κ46 a = 38 ∨ κ46 a = 39 ∨ 300 ≤ κ46 a := by
    intro a ha
    by_cases hab : a = b45
    · rw [hab, k48]; omega
    · rw [eκ46, hp_kk_n hab]; have := hm a ha; omega
  have hR : ∀ a, κ a = 0 → κ46 a = 0 ∨ (18 ≤ κ46 a ∧ κ46 a ≤ 30) ∨ κ46 a = 38 ∨ κ46 a = 39 := by
    intro a ha
    by_cases hab : a = b45
    · rw [hab, k48]; omega
    · rw [eκ46, hp_kk_n hab]; exact hR a ha
  have hQ : ∀ a, κ a ≠ 0 → a ≠ h0 → κ46 a = κ a := fun a h1 h2 => by rw [eκ46, hp_kk_n (fun e9 => h1 (by rw [← hQ a h1 h2, e9, zb45])), hQ a h1 h2]
  refine hp_putF (C := RX7) (T := TX7) (N := 24) (ci := 7) (kd := 205) hx hb hts iX7_init_X7 hown hK hZ.2.2.2.2 k47 (rfl : hk_t 205 = (1, 7, 24)) rfl 9 (by decide) (hts (.fieldLink RX7 37 "NeighborBookModel" "good" "[I") (List.mem_of_getElem? (i := 15) rfl)) (fun _ h9 => h9) tyX7 tyX7_ok nmX7 (v := .ref b45) rfl rfl (by omega) hZ.1 rfl hin rfl dX7_init_64 (fun F H locs hM hO hS => ?_)
  have hZ := hp_step (k1 := 205) (k2 := 206) hZ.1 hZ.2.1 hZ.2.2.1 (Nat.le_trans hBz hS.1) hM hO hS k47 ((rfl : hk_t 206 = (1, 7, 24)).trans (rfl : hk_t 205 = (1, 7, 24)).symm) (by unfold hk_ok; omega) (by rw [(rfl : hk_t 206 = (1, 7, 24))]; decide) (fun a j hj _ h => by have := hk_sr (hZ.2.2.1 a) h hj; omega) (fun j hj h => by have := hk_sr (kd := 206) (by unfold hk_ok; omega) h hj; omega) ⟨b45, rfl, k48⟩ (fun j hj hl w hw => by
        have hl : j < 24 := by rw [(rfl : hk_t 205 = (1, 7, 24))] at hl; exact hl
        match j, hj, hl, hw with
        | 0, _, _, hw => exact hw
        | 1, _, _, hw => exact hw
        | 2, _, _, hw => exact hw
        | 3, _, _, hw => exact hw
        | 4, _, _, hw => exact hw
        | 5, _, _, hw => exact hw
        | 6, _, _, hw => exact hw
        | 7, _, _, hw => exact hw
        | 8, _, _, hw => exact hw
        | 10, _, _, hw => exact hw
        | 11, _, _, hw => exact hw
        | 12, _, _, hw => exact hw
        | 13, _, _, hw => exact hw
        | 14, _, _, hw => exact hw
        | 15, _, _, hw => exact hw
        | 16, _, _, hw => exact hw
        | 17, _, _, hw => exact hw
        | 18, _, _, hw => exact hw
        | 19, _, _, hw => exact hw
        | 20, _, _, hw => exact hw
        | 21, _, _, hw => exact hw
        | 22, _, _, hw => exact hw
        | 23, _, _, hw => exact hw
        | 9, hj, _, _ => exact absurd rfl hj
        | n9 + 24, _, hl, _ => exact absurd hl (by omega)) (fun h => absurd h (by decide))
  obtain ⟨κ49, eκ49⟩ : ∃ z, z = hp_kk κ46 h0 (206) := ⟨_, rfl⟩
  rw [← eκ49] at hZ
  have k50 : κ49 b45 = 22 := by rw [eκ49, hp_kk_n (fun h9 => by rw [h9, k47] at k48; omega)]; exact k48
  have k51 : κ49 h0 = 206 := by rw [eκ49]; exact hp_kk_s _ _ _
  have hm : ∀ a, a ≠ h0 → (κ49 a ≤ 22 ∧ κ49 a ≠ 11) ∨ κ49 a = 38 ∨ κ49 a = 39 ∨ 300 ≤ κ49 a := fun a ha => by rw [eκ49, hp_kk_n ha]; exact hm a ha
  have hR : ∀ a, κ a = 0 → κ49 a = 0 ∨ (18 ≤ κ49 a ∧ κ49 a ≤ 30) ∨ κ49 a = 38 ∨ κ49 a = 39 := fun a ha => by rw [eκ49, hp_kk_n (fun e9 => h0n (by rw [← e9]; exact ha))]; exact hR a ha
  have hQ : ∀ a, κ a ≠ 0 → a ≠ h0 → κ49 a = κ a := fun a h1 h2 => by rw [eκ49, hp_kk_n h2, hQ a h1 h2]
  refine lv_aload_n hx hb dX7_init_67 rfl (lv_at hl 0 rfl) ?_
  refine hq_iconst hx hb dX7_init_68 (by decide) (by decide) (fun z52 ez52 => ?_)
  refine hp_newi (atype := .int) (ty := 0) (N := 4) (kd := 23) hx hb (hts (.arrayClass .int) (List.mem_of_getElem? (i := 7) rfl)) hK hZ (hK.2 0 _ rfl).2 rfl (by unfold hk_ok; omega) (fun _ k _ => ⟨0, rfl, (show (0 : Int32).toInt = g 23 k by rw [hga 23 k (by decide) (by decide)]; rfl)⟩) (fun _ a h9 => by by_cases ha : a = h0; (rw [ha, k51] at h9; omega); (have := hm a ha; omega)) (by omega) (by show 4 * 4 ≤ 536870912; omega) (by show 6 + 1 ≤ 15; omega) (by show 1261 + 4 ≤ 9149; omega) dX7_init_69 (fun b53 H zb53 hZ => ?_)
  refine W.cs (cells' := 7) (slots' := 1265) (by omega) (by omega) ?_
  obtain ⟨κ54, eκ54⟩ : ∃ z, z = hp_kk κ49 b53 (23) := ⟨_, rfl⟩
  rw [← eκ54] at hZ
  have k55 : κ54 h0 = 206 := by rw [eκ54, hp_kk_n (ne_k k51 zb53 (by omega))]; exact k51
  have k56 : κ54 b53 = 23 := by rw [eκ54]; exact hp_kk_s _ _ _
  have hm : ∀ a, a ≠ h0 → (κ54 a ≤ 23 ∧ κ54 a ≠ 11) ∨ κ54 a = 38 ∨ κ54 a = 39 ∨ 300 ≤ κ54 a := by
    intro a ha
    by_cases hab : a = b53
    · rw [hab, k56]; omega
    · rw [eκ54, hp_kk_n hab]; have := hm a ha; omega
  have hR : ∀ a, κ a = 0 → κ54 a = 0 ∨ (18 ≤ κ54 a ∧ κ54 a ≤ 30) ∨ κ54 a = 38 ∨ κ54 a = 39 := by
    intro a ha
    by_cases hab : a = b53
    · rw [hab, k56]; omega
    · rw [eκ54, hp_kk_n hab]; exact hR a ha
  have hQ : ∀ a, κ a ≠ 0 → a ≠ h0 → κ54 a = κ a := fun a h1 h2 => by rw [eκ54, hp_kk_n (fun e9 => h1 (by rw [← hQ a h1 h2, e9, zb53])), hQ a h1 h2]
  refine hp_putF (C := RX7) (T := TX7) (N := 24) (ci := 7) (kd := 206) hx hb hts iX7_init_X7 hown hK hZ.2.2.2.2 k55 (rfl : hk_t 206 = (1, 7, 24)) rfl 10 (by decide) (hts (.fieldLink RX7 40 "NeighborBookModel" "bad" "[I") (List.mem_of_getElem? (i := 16) rfl)) (fun _ h9 => h9) tyX7 tyX7_ok nmX7 (v := .ref b53) rfl rfl (by omega) hZ.1 rfl hin rfl dX7_init_71 (fun F H locs hM hO hS => ?_)
  have hZ := hp_step (k1 := 206) (k2 := 207) hZ.1 hZ.2.1 hZ.2.2.1 (Nat.le_trans hBz hS.1) hM hO hS k55 ((rfl : hk_t 207 = (1, 7, 24)).trans (rfl : hk_t 206 = (1, 7, 24)).symm) (by unfold hk_ok; omega) (by rw [(rfl : hk_t 207 = (1, 7, 24))]; decide) (fun a j hj _ h => by have := hk_sr (hZ.2.2.1 a) h hj; omega) (fun j hj h => by have := hk_sr (kd := 207) (by unfold hk_ok; omega) h hj; omega) ⟨b53, rfl, k56⟩ (fun j hj hl w hw => by
        have hl : j < 24 := by rw [(rfl : hk_t 206 = (1, 7, 24))] at hl; exact hl
        match j, hj, hl, hw with
        | 0, _, _, hw => exact hw
        | 1, _, _, hw => exact hw
        | 2, _, _, hw => exact hw
        | 3, _, _, hw => exact hw
        | 4, _, _, hw => exact hw
        | 5, _, _, hw => exact hw
        | 6, _, _, hw => exact hw
        | 7, _, _, hw => exact hw
        | 8, _, _, hw => exact hw
        | 9, _, _, hw => exact hw
        | 11, _, _, hw => exact hw
        | 12, _, _, hw => exact hw
        | 13, _, _, hw => exact hw
        | 14, _, _, hw => exact hw
        | 15, _, _, hw => exact hw
        | 16, _, _, hw => exact hw
        | 17, _, _, hw => exact hw
        | 18, _, _, hw => exact hw
        | 19, _, _, hw => exact hw
        | 20, _, _, hw => exact hw
        | 21, _, _, hw => exact hw
        | 22, _, _, hw => exact hw
        | 23, _, _, hw => exact hw
        | 10, hj, _, _ => exact absurd rfl hj
        | n9 + 24, _, hl, _ => exact absurd hl (by omega)) (fun h => absurd h (by decide))
  obtain ⟨κ57, eκ57⟩ : ∃ z, z = hp_kk κ54 h0 (207) := ⟨_, rfl⟩
  rw [← eκ57] at hZ
  have k58 : κ57 b53 = 23 := by rw [eκ57, hp_kk_n (fun h9 => by rw [h9, k55] at k56; omega)]; exact k56
  have k59 : κ57 h0 = 207 := by rw [eκ57]; exact hp_kk_s _ _ _
  have hm : ∀ a, a ≠ h0 → (κ57 a ≤ 23 ∧ κ57 a ≠ 11) ∨ κ57 a = 38 ∨ κ57 a = 39 ∨ 300 ≤ κ57 a := fun a ha => by rw [eκ57, hp_kk_n ha]; exact hm a ha
  have hR : ∀ a, κ a = 0 → κ57 a = 0 ∨ (18 ≤ κ57 a ∧ κ57 a ≤ 30) ∨ κ57 a = 38 ∨ κ57 a = 39 := fun a ha => by rw [eκ57, hp_kk_n (fun e9 => h0n (by rw [← e9]; exact ha))]; exact hR a ha
  have hQ : ∀ a, κ a ≠ 0 → a ≠ h0 → κ57 a = κ a := fun a h1 h2 => by rw [eκ57, hp_kk_n h2, hQ a h1 h2]
  refine lv_aload_n hx hb dX7_init_74 rfl (lv_at hl 0 rfl) ?_
  refine hq_iconst hx hb dX7_init_75 (by decide) (by decide) (fun z60 ez60 => ?_)
  refine hp_newi (atype := .int) (ty := 0) (N := 4) (kd := 24) hx hb (hts (.arrayClass .int) (List.mem_of_getElem? (i := 7) rfl)) hK hZ (hK.2 0 _ rfl).2 rfl (by unfold hk_ok; omega) (fun _ k _ => ⟨0, rfl, (show (0 : Int32).toInt = g 24 k by rw [hga 24 k (by decide) (by decide)]; rfl)⟩) (fun _ a h9 => by by_cases ha : a = h0; (rw [ha, k59] at h9; omega); (have := hm a ha; omega)) (by omega) (by show 4 * 4 ≤ 536870912; omega) (by show 7 + 1 ≤ 15; omega) (by show 1265 + 4 ≤ 9149; omega) dX7_init_76 (fun b61 H zb61 hZ => ?_)
  refine W.cs (cells' := 8) (slots' := 1269) (by omega) (by omega) ?_
  obtain ⟨κ62, eκ62⟩ : ∃ z, z = hp_kk κ57 b61 (24) := ⟨_, rfl⟩
  rw [← eκ62] at hZ
  have k63 : κ62 h0 = 207 := by rw [eκ62, hp_kk_n (ne_k k59 zb61 (by omega))]; exact k59
  have k64 : κ62 b61 = 24 := by rw [eκ62]; exact hp_kk_s _ _ _
  have hm : ∀ a, a ≠ h0 → (κ62 a ≤ 24 ∧ κ62 a ≠ 11) ∨ κ62 a = 38 ∨ κ62 a = 39 ∨ 300 ≤ κ62 a := by
    intro a ha
    by_cases hab : a = b61
    · rw [hab, k64]; omega
    · rw [eκ62, hp_kk_n hab]; have := hm a ha; omega
  have hR : ∀ a, κ a = 0 → κ62 a = 0 ∨ (18 ≤ κ62 a ∧ κ62 a ≤ 30) ∨ κ62 a = 38 ∨ κ62 a = 39 := by
    intro a ha
    by_cases hab : a = b61
    · rw [hab, k64]; omega
    · rw [eκ62, hp_kk_n hab]; exact hR a ha
  have hQ : ∀ a, κ a ≠ 0 → a ≠ h0 → κ62 a = κ a := fun a h1 h2 => by rw [eκ62, hp_kk_n (fun e9 => h1 (by rw [← hQ a h1 h2, e9, zb61])), hQ a h1 h2]
  refine hp_putF (C := RX7) (T := TX7) (N := 24) (ci := 7) (kd := 207) hx hb hts iX7_init_X7 hown hK hZ.2.2.2.2 k63 (rfl : hk_t 207 = (1, 7, 24)) rfl 11 (by decide) (hts (.fieldLink RX7 43 "NeighborBookModel" "waits" "[I") (List.mem_of_getElem? (i := 17) rfl)) (fun _ h9 => h9) tyX7 tyX7_ok nmX7 (v := .ref b61) rfl rfl (by omega) hZ.1 rfl hin rfl dX7_init_78 (fun F H locs hM hO hS => ?_)
  have hZ := hp_step (k1 := 207) (k2 := 208) hZ.1 hZ.2.1 hZ.2.2.1 (Nat.le_trans hBz hS.1) hM hO hS k63 ((rfl : hk_t 208 = (1, 7, 24)).trans (rfl : hk_t 207 = (1, 7, 24)).symm) (by unfold hk_ok; omega) (by rw [(rfl : hk_t 208 = (1, 7, 24))]; decide) (fun a j hj _ h => by have := hk_sr (hZ.2.2.1 a) h hj; omega) (fun j hj h => by have := hk_sr (kd := 208) (by unfold hk_ok; omega) h hj; omega) ⟨b61, rfl, k64⟩ (fun j hj hl w hw => by
        have hl : j < 24 := by rw [(rfl : hk_t 207 = (1, 7, 24))] at hl; exact hl
        match j, hj, hl, hw with
        | 0, _, _, hw => exact hw
        | 1, _, _, hw => exact hw
        | 2, _, _, hw => exact hw
        | 3, _, _, hw => exact hw
        | 4, _, _, hw => exact hw
        | 5, _, _, hw => exact hw
        | 6, _, _, hw => exact hw
        | 7, _, _, hw => exact hw
        | 8, _, _, hw => exact hw
        | 9, _, _, hw => exact hw
        | 10, _, _, hw => exact hw
        | 12, _, _, hw => exact hw
        | 13, _, _, hw => exact hw
        | 14, _, _, hw => exact hw
        | 15, _, _, hw => exact hw
        | 16, _, _, hw => exact hw
        | 17, _, _, hw => exact hw
        | 18, _, _, hw => exact hw
        | 19, _, _, hw => exact hw
        | 20, _, _, hw => exact hw
        | 21, _, _, hw => exact hw
        | 22, _, _, hw => exact hw
        | 23, _, _, hw => exact hw
        | 11, hj, _, _ => exact absurd rfl hj
        | n9 + 24, _, hl, _ => exact absurd hl (by omega)) (fun h => absurd h (by decide))
  obtain ⟨κ65, eκ65⟩ : ∃ z, z = hp_kk κ62 h0 (208) := ⟨_, rfl⟩
  rw [← eκ65] at hZ
  have k66 : κ65 b61 = 24 := by rw [eκ65, hp_kk_n (fun h9 => by rw [h9, k63] at k64; omega)]; exact k64
  have k67 : κ65 h0 = 208 := by rw [eκ65]; exact hp_kk_s _ _ _
  have hm : ∀ a, a ≠ h0 → (κ65 a ≤ 24 ∧ κ65 a ≠ 11) ∨ κ65 a = 38 ∨ κ65 a = 39 ∨ 300 ≤ κ65 a := fun a ha => by rw [eκ65, hp_kk_n ha]; exact hm a ha
  have hR : ∀ a, κ a = 0 → κ65 a = 0 ∨ (18 ≤ κ65 a ∧ κ65 a ≤ 30) ∨ κ65 a = 38 ∨ κ65 a = 39 := fun a ha => by rw [eκ65, hp_kk_n (fun e9 => h0n (by rw [← e9]; exact ha))]; exact hR a ha
  have hQ : ∀ a, κ a ≠ 0 → a ≠ h0 → κ65 a = κ a := fun a h1 h2 => by rw [eκ65, hp_kk_n h2, hQ a h1 h2]
  refine lv_aload_n hx hb dX7_init_81 rfl (lv_at hl 0 rfl) ?_
  refine hq_iconst hx hb dX7_init_82 (by decide) (by decide) (fun z68 ez68 => ?_)
  refine hp_newi (atype := .int) (ty := 0) (N := 4) (kd := 25) hx hb (hts (.arrayClass .int) (List.mem_of_getElem? (i := 7) rfl)) hK hZ (hK.2 0 _ rfl).2 rfl (by unfold hk_ok; omega) (fun _ k _ => ⟨0, rfl, (show (0 : Int32).toInt = g 25 k by rw [hga 25 k (by decide) (by decide)]; rfl)⟩) (fun _ a h9 => by by_cases ha : a = h0; (rw [ha, k67] at h9; omega); (have := hm a ha; omega)) (by omega) (by show 4 * 4 ≤ 536870912; omega) (by show 8 + 1 ≤ 15; omega) (by show 1269 + 4 ≤ 9149; omega) dX7_init_83 (fun b69 H zb69 hZ => ?_)
  refine W.cs (cells' := 9) (slots' := 1273) (by omega) (by omega) ?_
  obtain ⟨κ70, eκ70⟩ : ∃ z, z = hp_kk κ65 b69 (25) := ⟨_, rfl⟩
  rw [← eκ70] at hZ
  have k71 : κ70 h0 = 208 := by rw [eκ70, hp_kk_n (ne_k k67 zb69 (by omega))]; exact k67
  have k72 : κ70 b69 = 25 := by rw [eκ70]; exact hp_kk_s _ _ _
  have hm : ∀ a, a ≠ h0 → (κ70 a ≤ 25 ∧ κ70 a ≠ 11) ∨ κ70 a = 38 ∨ κ70 a = 39 ∨ 300 ≤ κ70 a := by
    intro a ha
    by_cases hab : a = b69
    · rw [hab, k72]; omega
    · rw [eκ70, hp_kk_n hab]; have := hm a ha; omega
  have hR : ∀ a, κ a = 0 → κ70 a = 0 ∨ (18 ≤ κ70 a ∧ κ70 a ≤ 30) ∨ κ70 a = 38 ∨ κ70 a = 39 := by
    intro a ha
    by_cases hab : a = b69
    · rw [hab, k72]; omega
    · rw [eκ70, hp_kk_n hab]; exact hR a ha
  have hQ : ∀ a, κ a ≠ 0 → a ≠ h0 → κ70 a = κ a := fun a h1 h2 => by rw [eκ70, hp_kk_n (fun e9 => h1 (by rw [← hQ a h1 h2, e9, zb69])), hQ a h1 h2]
  refine hp_putF (C := RX7) (T := TX7) (N := 24) (ci := 7) (kd := 208) hx hb hts iX7_init_X7 hown hK hZ.2.2.2.2 k71 (rfl : hk_t 208 = (1, 7, 24)) rfl 12 (by decide) (hts (.fieldLink RX7 46 "NeighborBookModel" "quicks" "[I") (List.mem_of_getElem? (i := 18) rfl)) (fun _ h9 => h9) tyX7 tyX7_ok nmX7 (v := .ref b69) rfl rfl (by omega) hZ.1 rfl hin rfl dX7_init_85 (fun F H locs hM hO hS => ?_)
  have hZ := hp_step (k1 := 208) (k2 := 209) hZ.1 hZ.2.1 hZ.2.2.1 (Nat.le_trans hBz hS.1) hM hO hS k71 ((rfl : hk_t 209 = (1, 7, 24)).trans (rfl : hk_t 208 = (1, 7, 24)).symm) (by unfold hk_ok; omega) (by rw [(rfl : hk_t 209 = (1, 7, 24))]; decide) (fun a j hj _ h => by have := hk_sr (hZ.2.2.1 a) h hj; omega) (fun j hj h => by have := hk_sr (kd := 209) (by unfold hk_ok; omega) h hj; omega) ⟨b69, rfl, k72⟩ (fun j hj hl w hw => by
        have hl : j < 24 := by rw [(rfl : hk_t 208 = (1, 7, 24))] at hl; exact hl
        match j, hj, hl, hw with
        | 0, _, _, hw => exact hw
        | 1, _, _, hw => exact hw
        | 2, _, _, hw => exact hw
        | 3, _, _, hw => exact hw
        | 4, _, _, hw => exact hw
        | 5, _, _, hw => exact hw
        | 6, _, _, hw => exact hw
        | 7, _, _, hw => exact hw
        | 8, _, _, hw => exact hw
        | 9, _, _, hw => exact hw
        | 10, _, _, hw => exact hw
        | 11, _, _, hw => exact hw
        | 13, _, _, hw => exact hw
        | 14, _, _, hw => exact hw
        | 15, _, _, hw => exact hw
        | 16, _, _, hw => exact hw
        | 17, _, _, hw => exact hw
        | 18, _, _, hw => exact hw
        | 19, _, _, hw => exact hw
        | 20, _, _, hw => exact hw
        | 21, _, _, hw => exact hw
        | 22, _, _, hw => exact hw
        | 23, _, _, hw => exact hw
        | 12, hj, _, _ => exact absurd rfl hj
        | n9 + 24, _, hl, _ => exact absurd hl (by omega)) (fun h => absurd h (by decide))
  obtain ⟨κ73, eκ73⟩ : ∃ z, z = hp_kk κ70 h0 (209) := ⟨_, rfl⟩
  rw [← eκ73] at hZ
  have k74 : κ73 b69 = 25 := by rw [eκ73, hp_kk_n (fun h9 => by rw [h9, k71] at k72; omega)]; exact k72
  have k75 : κ73 h0 = 209 := by rw [eκ73]; exact hp_kk_s _ _ _
  have hm : ∀ a, a ≠ h0 → (κ73 a ≤ 25 ∧ κ73 a ≠ 11) ∨ κ73 a = 38 ∨ κ73 a = 39 ∨ 300 ≤ κ73 a := fun a ha => by rw [eκ73, hp_kk_n ha]; exact hm a ha
  have hR : ∀ a, κ a = 0 → κ73 a = 0 ∨ (18 ≤ κ73 a ∧ κ73 a ≤ 30) ∨ κ73 a = 38 ∨ κ73 a = 39 := fun a ha => by rw [eκ73, hp_kk_n (fun e9 => h0n (by rw [← e9]; exact ha))]; exact hR a ha
  have hQ : ∀ a, κ a ≠ 0 → a ≠ h0 → κ73 a = κ a := fun a h1 h2 => by rw [eκ73, hp_kk_n h2, hQ a h1 h2]
  refine lv_aload_n hx hb dX7_init_88 rfl (lv_at hl 0 rfl) ?_
  refine hq_bipush hx hb dX7_init_89 (by decide) (fun z76 ez76 => ?_)
  refine hp_newi (atype := .int) (ty := 0) (N := 13) (kd := 26) hx hb (hts (.arrayClass .int) (List.mem_of_getElem? (i := 7) rfl)) hK hZ (hK.2 0 _ rfl).2 rfl (by unfold hk_ok; omega) (fun _ k _ => ⟨0, rfl, (show 0 ≤ (0 : Int32).toInt ∧ (0 : Int32).toInt ≤ ((3 : Nat) : Int) by decide)⟩) (fun _ a h9 => by by_cases ha : a = h0; (rw [ha, k75] at h9; omega); (have := hm a ha; omega)) (by omega) (by show 13 * 4 ≤ 536870912; omega) (by show 9 + 1 ≤ 15; omega) (by show 1273 + 13 ≤ 9149; omega) dX7_init_91 (fun b77 H zb77 hZ => ?_)
  refine W.cs (cells' := 10) (slots' := 1286) (by omega) (by omega) ?_
  obtain ⟨κ78, eκ78⟩ : ∃ z, z = hp_kk κ73 b77 (26) := ⟨_, rfl⟩
  rw [← eκ78] at hZ
  have k79 : κ78 h0 = 209 := by rw [eκ78, hp_kk_n (ne_k k75 zb77 (by omega))]; exact k75
  have k80 : κ78 b77 = 26 := by rw [eκ78]; exact hp_kk_s _ _ _
  have hm : ∀ a, a ≠ h0 → (κ78 a ≤ 26 ∧ κ78 a ≠ 11) ∨ κ78 a = 38 ∨ κ78 a = 39 ∨ 300 ≤ κ78 a := by
    intro a ha
    by_cases hab : a = b77
    · rw [hab, k80]; omega
    · rw [eκ78, hp_kk_n hab]; have := hm a ha; omega
  have hR : ∀ a, κ a = 0 → κ78 a = 0 ∨ (18 ≤ κ78 a ∧ κ78 a ≤ 30) ∨ κ78 a = 38 ∨ κ78 a = 39 := by
    intro a ha
    by_cases hab : a = b77
    · rw [hab, k80]; omega
    · rw [eκ78, hp_kk_n hab]; exact hR a ha
  have hQ : ∀ a, κ a ≠ 0 → a ≠ h0 → κ78 a = κ a := fun a h1 h2 => by rw [eκ78, hp_kk_n (fun e9 => h1 (by rw [← hQ a h1 h2, e9, zb77])), hQ a h1 h2]
  refine hp_putF (C := RX7) (T := TX7) (N := 24) (ci := 7) (kd := 209) hx hb hts iX7_init_X7 hown hK hZ.2.2.2.2 k79 (rfl : hk_t 209 = (1, 7, 24)) rfl 14 (by decide) (hts (.fieldLink RX7 49 "NeighborBookModel" "ports" "[I") (List.mem_of_getElem? (i := 19) rfl)) (fun _ h9 => h9) tyX7 tyX7_ok nmX7 (v := .ref b77) rfl rfl (by omega) hZ.1 rfl hin rfl dX7_init_93 (fun F H locs hM hO hS => ?_)
  have hZ := hp_step (k1 := 209) (k2 := 210) hZ.1 hZ.2.1 hZ.2.2.1 (Nat.le_trans hBz hS.1) hM hO hS k79 ((rfl : hk_t 210 = (1, 7, 24)).trans (rfl : hk_t 209 = (1, 7, 24)).symm) (by unfold hk_ok; omega) (by rw [(rfl : hk_t 210 = (1, 7, 24))]; decide) (fun a j hj _ h => by have := hk_sr (hZ.2.2.1 a) h hj; omega) (fun j hj h => by have := hk_sr (kd := 210) (by unfold hk_ok; omega) h hj; omega) ⟨b77, rfl, k80⟩ (fun j hj hl w hw => by
        have hl : j < 24 := by rw [(rfl : hk_t 209 = (1, 7, 24))] at hl; exact hl
        match j, hj, hl, hw with
        | 0, _, _, hw => exact hw
        | 1, _, _, hw => exact hw
        | 2, _, _, hw => exact hw
        | 3, _, _, hw => exact hw
        | 4, _, _, hw => exact hw
        | 5, _, _, hw => exact hw
        | 6, _, _, hw => exact hw
        | 7, _, _, hw => exact hw
        | 8, _, _, hw => exact hw
        | 9, _, _, hw => exact hw
        | 10, _, _, hw => exact hw
        | 11, _, _, hw => exact hw
        | 12, _, _, hw => exact hw
        | 13, _, _, hw => exact hw
        | 15, _, _, hw => exact hw
        | 16, _, _, hw => exact hw
        | 17, _, _, hw => exact hw
        | 18, _, _, hw => exact hw
        | 19, _, _, hw => exact hw
        | 20, _, _, hw => exact hw
        | 21, _, _, hw => exact hw
        | 22, _, _, hw => exact hw
        | 23, _, _, hw => exact hw
        | 14, hj, _, _ => exact absurd rfl hj
        | n9 + 24, _, hl, _ => exact absurd hl (by omega)) (fun h => absurd h (by decide))
  obtain ⟨κ81, eκ81⟩ : ∃ z, z = hp_kk κ78 h0 (210) := ⟨_, rfl⟩
  rw [← eκ81] at hZ
  have k82 : κ81 b77 = 26 := by rw [eκ81, hp_kk_n (fun h9 => by rw [h9, k79] at k80; omega)]; exact k80
  have k83 : κ81 h0 = 210 := by rw [eκ81]; exact hp_kk_s _ _ _
  have hm : ∀ a, a ≠ h0 → (κ81 a ≤ 26 ∧ κ81 a ≠ 11) ∨ κ81 a = 38 ∨ κ81 a = 39 ∨ 300 ≤ κ81 a := fun a ha => by rw [eκ81, hp_kk_n ha]; exact hm a ha
  have hR : ∀ a, κ a = 0 → κ81 a = 0 ∨ (18 ≤ κ81 a ∧ κ81 a ≤ 30) ∨ κ81 a = 38 ∨ κ81 a = 39 := fun a ha => by rw [eκ81, hp_kk_n (fun e9 => h0n (by rw [← e9]; exact ha))]; exact hR a ha
  have hQ : ∀ a, κ a ≠ 0 → a ≠ h0 → κ81 a = κ a := fun a h1 h2 => by rw [eκ81, hp_kk_n h2, hQ a h1 h2]
  refine lv_aload_n hx hb dX7_init_96 rfl (lv_at hl 0 rfl) ?_
  refine hq_bipush hx hb dX7_init_97 (by decide) (fun z84 ez84 => ?_)
  refine hp_newi (atype := .int) (ty := 0) (N := 13) (kd := 27) hx hb (hts (.arrayClass .int) (List.mem_of_getElem? (i := 7) rfl)) hK hZ (hK.2 0 _ rfl).2 rfl (by unfold hk_ok; omega) (fun _ k _ => ⟨0, rfl, (show 0 ≤ (0 : Int32).toInt ∧ (0 : Int32).toInt ≤ ((0 : Nat) : Int) by decide)⟩) (fun _ a h9 => by by_cases ha : a = h0; (rw [ha, k83] at h9; omega); (have := hm a ha; omega)) (by omega) (by show 13 * 4 ≤ 536870912; omega) (by show 10 + 1 ≤ 15; omega) (by show 1286 + 13 ≤ 9149; omega) dX7_init_99 (fun b85 H zb85 hZ => ?_)
  refine W.cs (cells' := 11) (slots' := 1299) (by omega) (by omega) ?_
  obtain ⟨κ86, eκ86⟩ : ∃ z, z = hp_kk κ81 b85 (27) := ⟨_, rfl⟩
  rw [← eκ86] at hZ
  have k87 : κ86 h0 = 210 := by rw [eκ86, hp_kk_n (ne_k k83 zb85 (by omega))]; exact k83
  have k88 : κ86 b85 = 27 := by rw [eκ86]; exact hp_kk_s _ _ _
  have hm : ∀ a, a ≠ h0 → (κ86 a ≤ 27 ∧ κ86 a ≠ 11) ∨ κ86 a = 38 ∨ κ86 a = 39 ∨ 300 ≤ κ86 a := by
    intro a ha
    by_cases hab : a = b85
    · rw [hab, k88]; omega
    · rw [eκ86, hp_kk_n hab]; have := hm a ha; omega
  have hR : ∀ a, κ a = 0 → κ86 a = 0 ∨ (18 ≤ κ86 a ∧ κ86 a ≤ 30) ∨ κ86 a = 38 ∨ κ86 a = 39 := by
    intro a ha
    by_cases hab : a = b85
    · rw [hab, k88]; omega
    · rw [eκ86, hp_kk_n hab]; exact hR a ha
  have hQ : ∀ a, κ a ≠ 0 → a ≠ h0 → κ86 a = κ a := fun a h1 h2 => by rw [eκ86, hp_kk_n (fun e9 => h1 (by rw [← hQ a h1 h2, e9, zb85])), hQ a h1 h2]
  refine hp_putF (C := RX7) (T := TX7) (N := 24) (ci := 7) (kd := 210) hx hb hts iX7_init_X7 hown hK hZ.2.2.2.2 k87 (rfl : hk_t 210 = (1, 7, 24)) rfl 15 (by decide) (hts (.fieldLink RX7 52 "NeighborBookModel" "left" "[I") (List.mem_of_getElem? (i := 20) rfl)) (fun _ h9 => h9) tyX7 tyX7_ok nmX7 (v := .ref b85) rfl rfl (by omega) hZ.1 rfl hin rfl dX7_init_101 (fun F H locs hM hO hS => ?_)
  have hZ := hp_step (k1 := 210) (k2 := 211) hZ.1 hZ.2.1 hZ.2.2.1 (Nat.le_trans hBz hS.1) hM hO hS k87 ((rfl : hk_t 211 = (1, 7, 24)).trans (rfl : hk_t 210 = (1, 7, 24)).symm) (by unfold hk_ok; omega) (by rw [(rfl : hk_t 211 = (1, 7, 24))]; decide) (fun a j hj _ h => by have := hk_sr (hZ.2.2.1 a) h hj; omega) (fun j hj h => by have := hk_sr (kd := 211) (by unfold hk_ok; omega) h hj; omega) ⟨b85, rfl, k88⟩ (fun j hj hl w hw => by
        have hl : j < 24 := by rw [(rfl : hk_t 210 = (1, 7, 24))] at hl; exact hl
        match j, hj, hl, hw with
        | 0, _, _, hw => exact hw
        | 1, _, _, hw => exact hw
        | 2, _, _, hw => exact hw
        | 3, _, _, hw => exact hw
        | 4, _, _, hw => exact hw
        | 5, _, _, hw => exact hw
        | 6, _, _, hw => exact hw
        | 7, _, _, hw => exact hw
        | 8, _, _, hw => exact hw
        | 9, _, _, hw => exact hw
        | 10, _, _, hw => exact hw
        | 11, _, _, hw => exact hw
        | 12, _, _, hw => exact hw
        | 13, _, _, hw => exact hw
        | 14, _, _, hw => exact hw
        | 16, _, _, hw => exact hw
        | 17, _, _, hw => exact hw
        | 18, _, _, hw => exact hw
        | 19, _, _, hw => exact hw
        | 20, _, _, hw => exact hw
        | 21, _, _, hw => exact hw
        | 22, _, _, hw => exact hw
        | 23, _, _, hw => exact hw
        | 15, hj, _, _ => exact absurd rfl hj
        | n9 + 24, _, hl, _ => exact absurd hl (by omega)) (fun h => absurd h (by decide))
  obtain ⟨κ89, eκ89⟩ : ∃ z, z = hp_kk κ86 h0 (211) := ⟨_, rfl⟩
  rw [← eκ89] at hZ
  have k90 : κ89 b85 = 27 := by rw [eκ89, hp_kk_n (fun h9 => by rw [h9, k87] at k88; omega)]; exact k88
  have k91 : κ89 h0 = 211 := by rw [eκ89]; exact hp_kk_s _ _ _
  have hm : ∀ a, a ≠ h0 → (κ89 a ≤ 27 ∧ κ89 a ≠ 11) ∨ κ89 a = 38 ∨ κ89 a = 39 ∨ 300 ≤ κ89 a := fun a ha => by rw [eκ89, hp_kk_n ha]; exact hm a ha
  have hR : ∀ a, κ a = 0 → κ89 a = 0 ∨ (18 ≤ κ89 a ∧ κ89 a ≤ 30) ∨ κ89 a = 38 ∨ κ89 a = 39 := fun a ha => by rw [eκ89, hp_kk_n (fun e9 => h0n (by rw [← e9]; exact ha))]; exact hR a ha
  have hQ : ∀ a, κ a ≠ 0 → a ≠ h0 → κ89 a = κ a := fun a h1 h2 => by rw [eκ89, hp_kk_n h2, hQ a h1 h2]
  refine lv_aload_n hx hb dX7_init_104 rfl (lv_at hl 0 rfl) ?_
  refine hq_bipush hx hb dX7_init_105 (by decide) (fun z92 ez92 => ?_)
  refine hp_newi (atype := .int) (ty := 0) (N := 13) (kd := 28) hx hb (hts (.arrayClass .int) (List.mem_of_getElem? (i := 7) rfl)) hK hZ (hK.2 0 _ rfl).2 rfl (by unfold hk_ok; omega) (fun _ k _ => ⟨0, rfl, trivial⟩) (fun _ a h9 => by by_cases ha : a = h0; (rw [ha, k91] at h9; omega); (have := hm a ha; omega)) (by omega) (by show 13 * 4 ≤ 536870912; omega) (by show 11 + 1 ≤ 15; omega) (by show 1299 + 13 ≤ 9149; omega) dX7_init_107 (fun b93 H zb93 hZ => ?_)
  refine W.cs (cells' := 12) (slots' := 1312) (by omega) (by omega) ?_
  obtain ⟨κ94, eκ94⟩ : ∃ z, z = hp_kk κ89 b93 (28) := ⟨_, rfl⟩
  rw [← eκ94] at hZ
  have k95 : κ94 h0 = 211 := by rw [eκ94, hp_kk_n (ne_k k91 zb93 (by omega))]; exact k91
  have k96 : κ94 b93 = 28 := by rw [eκ94]; exact hp_kk_s _ _ _
  have hm : ∀ a, a ≠ h0 → (κ94 a ≤ 28 ∧ κ94 a ≠ 11) ∨ κ94 a = 38 ∨ κ94 a = 39 ∨ 300 ≤ κ94 a := by
    intro a ha
    by_cases hab : a = b93
    · rw [hab, k96]; omega
    · rw [eκ94, hp_kk_n hab]; have := hm a ha; omega
  have hR : ∀ a, κ a = 0 → κ94 a = 0 ∨ (18 ≤ κ94 a ∧ κ94 a ≤ 30) ∨ κ94 a = 38 ∨ κ94 a = 39 := by
    intro a ha
    by_cases hab : a = b93
    · rw [hab, k96]; omega
    · rw [eκ94, hp_kk_n hab]; exact hR a ha
  have hQ : ∀ a, κ a ≠ 0 → a ≠ h0 → κ94 a = κ a := fun a h1 h2 => by rw [eκ94, hp_kk_n (fun e9 => h1 (by rw [← hQ a h1 h2, e9, zb93])), hQ a h1 h2]
  refine hp_putF (C := RX7) (T := TX7) (N := 24) (ci := 7) (kd := 211) hx hb hts iX7_init_X7 hown hK hZ.2.2.2.2 k95 (rfl : hk_t 211 = (1, 7, 24)) rfl 16 (by decide) (hts (.fieldLink RX7 55 "NeighborBookModel" "frames" "[I") (List.mem_of_getElem? (i := 21) rfl)) (fun _ h9 => h9) tyX7 tyX7_ok nmX7 (v := .ref b93) rfl rfl (by omega) hZ.1 rfl hin rfl dX7_init_109 (fun F H locs hM hO hS => ?_)
  have hZ := hp_step (k1 := 211) (k2 := 212) hZ.1 hZ.2.1 hZ.2.2.1 (Nat.le_trans hBz hS.1) hM hO hS k95 ((rfl : hk_t 212 = (1, 7, 24)).trans (rfl : hk_t 211 = (1, 7, 24)).symm) (by unfold hk_ok; omega) (by rw [(rfl : hk_t 212 = (1, 7, 24))]; decide) (fun a j hj _ h => by have := hk_sr (hZ.2.2.1 a) h hj; omega) (fun j hj h => by have := hk_sr (kd := 212) (by unfold hk_ok; omega) h hj; omega) ⟨b93, rfl, k96⟩ (fun j hj hl w hw => by
        have hl : j < 24 := by rw [(rfl : hk_t 211 = (1, 7, 24))] at hl; exact hl
        match j, hj, hl, hw with
        | 0, _, _, hw => exact hw
        | 1, _, _, hw => exact hw
        | 2, _, _, hw => exact hw
        | 3, _, _, hw => exact hw
        | 4, _, _, hw => exact hw
        | 5, _, _, hw => exact hw
        | 6, _, _, hw => exact hw
        | 7, _, _, hw => exact hw
        | 8, _, _, hw => exact hw
        | 9, _, _, hw => exact hw
        | 10, _, _, hw => exact hw
        | 11, _, _, hw => exact hw
        | 12, _, _, hw => exact hw
        | 13, _, _, hw => exact hw
        | 14, _, _, hw => exact hw
        | 15, _, _, hw => exact hw
        | 17, _, _, hw => exact hw
        | 18, _, _, hw => exact hw
        | 19, _, _, hw => exact hw
        | 20, _, _, hw => exact hw
        | 21, _, _, hw => exact hw
        | 22, _, _, hw => exact hw
        | 23, _, _, hw => exact hw
        | 16, hj, _, _ => exact absurd rfl hj
        | n9 + 24, _, hl, _ => exact absurd hl (by omega)) (fun h => absurd h (by decide))
  obtain ⟨κ97, eκ97⟩ : ∃ z, z = hp_kk κ94 h0 (212) := ⟨_, rfl⟩
  rw [← eκ97] at hZ
  have k98 : κ97 b93 = 28 := by rw [eκ97, hp_kk_n (fun h9 => by rw [h9, k95] at k96; omega)]; exact k96
  have k99 : κ97 h0 = 212 := by rw [eκ97]; exact hp_kk_s _ _ _
  have hm : ∀ a, a ≠ h0 → (κ97 a ≤ 28 ∧ κ97 a ≠ 11) ∨ κ97 a = 38 ∨ κ97 a = 39 ∨ 300 ≤ κ97 a := fun a ha => by rw [eκ97, hp_kk_n ha]; exact hm a ha
  have hR : ∀ a, κ a = 0 → κ97 a = 0 ∨ (18 ≤ κ97 a ∧ κ97 a ≤ 30) ∨ κ97 a = 38 ∨ κ97 a = 39 := fun a ha => by rw [eκ97, hp_kk_n (fun e9 => h0n (by rw [← e9]; exact ha))]; exact hR a ha
  have hQ : ∀ a, κ a ≠ 0 → a ≠ h0 → κ97 a = κ a := fun a h1 h2 => by rw [eκ97, hp_kk_n h2, hQ a h1 h2]
  refine lv_aload_n hx hb dX7_init_112 rfl (lv_at hl 0 rfl) ?_
  refine hq_sipush hx hb dX7_init_113 (by decide) (fun z100 ez100 => ?_)
  refine hp_newi (atype := .byte) (ty := 1) (N := 7020) (kd := 29) hx hb (hts (.arrayClass .byte) (List.mem_of_getElem? (i := 4) rfl)) hK hZ (hK.2 1 _ rfl).2 rfl (by unfold hk_ok; omega) (fun _ k _ => ⟨0, rfl, by decide, by decide⟩) (fun _ a h9 => by by_cases ha : a = h0; (rw [ha, k99] at h9; omega); (have := hm a ha; omega)) (by omega) (by show 7020 * 1 ≤ 536870912; omega) (by show 12 + 1 ≤ 15; omega) (by show 1312 + 7020 ≤ 9149; omega) dX7_init_116 (fun b101 H zb101 hZ => ?_)
  refine W.cs (cells' := 13) (slots' := 8332) (by omega) (by omega) ?_
  obtain ⟨κ102, eκ102⟩ : ∃ z, z = hp_kk κ97 b101 (29) := ⟨_, rfl⟩
  rw [← eκ102] at hZ
  have k103 : κ102 h0 = 212 := by rw [eκ102, hp_kk_n (ne_k k99 zb101 (by omega))]; exact k99
  have k104 : κ102 b101 = 29 := by rw [eκ102]; exact hp_kk_s _ _ _
  have hm : ∀ a, a ≠ h0 → (κ102 a ≤ 29 ∧ κ102 a ≠ 11) ∨ κ102 a = 38 ∨ κ102 a = 39 ∨ 300 ≤ κ102 a := by
    intro a ha
    by_cases hab : a = b101
    · rw [hab, k104]; omega
    · rw [eκ102, hp_kk_n hab]; have := hm a ha; omega
  have hR : ∀ a, κ a = 0 → κ102 a = 0 ∨ (18 ≤ κ102 a ∧ κ102 a ≤ 30) ∨ κ102 a = 38 ∨ κ102 a = 39 := by
    intro a ha
    by_cases hab : a = b101
    · rw [hab, k104]; omega
    · rw [eκ102, hp_kk_n hab]; exact hR a ha
  have hQ : ∀ a, κ a ≠ 0 → a ≠ h0 → κ102 a = κ a := fun a h1 h2 => by rw [eκ102, hp_kk_n (fun e9 => h1 (by rw [← hQ a h1 h2, e9, zb101])), hQ a h1 h2]
  refine hp_putF (C := RX7) (T := TX7) (N := 24) (ci := 7) (kd := 212) hx hb hts iX7_init_X7 hown hK hZ.2.2.2.2 k103 (rfl : hk_t 212 = (1, 7, 24)) rfl 17 (by decide) (hts (.fieldLink RX7 58 "NeighborBookModel" "bytes" "[B") (List.mem_of_getElem? (i := 22) rfl)) (fun _ h9 => h9) tyX7 tyX7_ok nmX7 (v := .ref b101) rfl rfl (by omega) hZ.1 rfl hin rfl dX7_init_118 (fun F H locs hM hO hS => ?_)
  have hZ := hp_step (k1 := 212) (k2 := 213) hZ.1 hZ.2.1 hZ.2.2.1 (Nat.le_trans hBz hS.1) hM hO hS k103 ((rfl : hk_t 213 = (1, 7, 24)).trans (rfl : hk_t 212 = (1, 7, 24)).symm) (by unfold hk_ok; omega) (by rw [(rfl : hk_t 213 = (1, 7, 24))]; decide) (fun a j hj _ h => by have := hk_sr (hZ.2.2.1 a) h hj; omega) (fun j hj h => by have := hk_sr (kd := 213) (by unfold hk_ok; omega) h hj; omega) ⟨b101, rfl, k104⟩ (fun j hj hl w hw => by
        have hl : j < 24 := by rw [(rfl : hk_t 212 = (1, 7, 24))] at hl; exact hl
        match j, hj, hl, hw with
        | 0, _, _, hw => exact hw
        | 1, _, _, hw => exact hw
        | 2, _, _, hw => exact hw
        | 3, _, _, hw => exact hw
        | 4, _, _, hw => exact hw
        | 5, _, _, hw => exact hw
        | 6, _, _, hw => exact hw
        | 7, _, _, hw => exact hw
        | 8, _, _, hw => exact hw
        | 9, _, _, hw => exact hw
        | 10, _, _, hw => exact hw
        | 11, _, _, hw => exact hw
        | 12, _, _, hw => exact hw
        | 13, _, _, hw => exact hw
        | 14, _, _, hw => exact hw
        | 15, _, _, hw => exact hw
        | 16, _, _, hw => exact hw
        | 18, _, _, hw => exact hw
        | 19, _, _, hw => exact hw
        | 20, _, _, hw => exact hw
        | 21, _, _, hw => exact hw
        | 22, _, _, hw => exact hw
        | 23, _, _, hw => exact hw
        | 17, hj, _, _ => exact absurd rfl hj
        | n9 + 24, _, hl, _ => exact absurd hl (by omega)) (fun h => absurd h (by decide))
  obtain ⟨κ105, eκ105⟩ : ∃ z, z = hp_kk κ102 h0 (213) := ⟨_, rfl⟩
  rw [← eκ105] at hZ
  have k106 : κ105 b101 = 29 := by rw [eκ105, hp_kk_n (fun h9 => by rw [h9, k103] at k104; omega)]; exact k104
  have k107 : κ105 h0 = 213 := by rw [eκ105]; exact hp_kk_s _ _ _
  have hm : ∀ a, a ≠ h0 → (κ105 a ≤ 29 ∧ κ105 a ≠ 11) ∨ κ105 a = 38 ∨ κ105 a = 39 ∨ 300 ≤ κ105 a := fun a ha => by rw [eκ105, hp_kk_n ha]; exact hm a ha
  have hR : ∀ a, κ a = 0 → κ105 a = 0 ∨ (18 ≤ κ105 a ∧ κ105 a ≤ 30) ∨ κ105 a = 38 ∨ κ105 a = 39 := fun a ha => by rw [eκ105, hp_kk_n (fun e9 => h0n (by rw [← e9]; exact ha))]; exact hR a ha
  have hQ : ∀ a, κ a ≠ 0 → a ≠ h0 → κ105 a = κ a := fun a h1 h2 => by rw [eκ105, hp_kk_n h2, hQ a h1 h2]
  refine lv_aload_n hx hb dX7_init_121 rfl (lv_at hl 0 rfl) ?_
  refine hq_bipush hx hb dX7_init_122 (by decide) (fun z108 ez108 => ?_)
  refine hp_newi (atype := .int) (ty := 0) (N := 117) (kd := 30) hx hb (hts (.arrayClass .int) (List.mem_of_getElem? (i := 7) rfl)) hK hZ (hK.2 0 _ rfl).2 rfl (by unfold hk_ok; omega) (fun _ k _ => ⟨0, rfl, (show -1 ≤ (0 : Int32).toInt ∧ (0 : Int32).toInt ≤ ((60 : Nat) : Int) by decide)⟩) (fun _ a h9 => by by_cases ha : a = h0; (rw [ha, k107] at h9; omega); (have := hm a ha; omega)) (by omega) (by show 117 * 4 ≤ 536870912; omega) (by show 13 + 1 ≤ 15; omega) (by show 8332 + 117 ≤ 9149; omega) dX7_init_124 (fun b109 H zb109 hZ => ?_)
  refine W.cs (cells' := 14) (slots' := 8449) (by omega) (by omega) ?_
  obtain ⟨κ110, eκ110⟩ : ∃ z, z = hp_kk κ105 b109 (30) := ⟨_, rfl⟩
  rw [← eκ110] at hZ
  have k111 : κ110 h0 = 213 := by rw [eκ110, hp_kk_n (ne_k k107 zb109 (by omega))]; exact k107
  have k112 : κ110 b109 = 30 := by rw [eκ110]; exact hp_kk_s _ _ _
  have hm : ∀ a, a ≠ h0 → (κ110 a ≤ 30 ∧ κ110 a ≠ 11) ∨ κ110 a = 38 ∨ κ110 a = 39 ∨ 300 ≤ κ110 a := by
    intro a ha
    by_cases hab : a = b109
    · rw [hab, k112]; omega
    · rw [eκ110, hp_kk_n hab]; have := hm a ha; omega
  have hR : ∀ a, κ a = 0 → κ110 a = 0 ∨ (18 ≤ κ110 a ∧ κ110 a ≤ 30) ∨ κ110 a = 38 ∨ κ110 a = 39 := by
    intro a ha
    by_cases hab : a = b109
    · rw [hab, k112]; omega
    · rw [eκ110, hp_kk_n hab]; exact hR a ha
  have hQ : ∀ a, κ a ≠ 0 → a ≠ h0 → κ110 a = κ a := fun a h1 h2 => by rw [eκ110, hp_kk_n (fun e9 => h1 (by rw [← hQ a h1 h2, e9, zb109])), hQ a h1 h2]
  refine hp_putF (C := RX7) (T := TX7) (N := 24) (ci := 7) (kd := 213) hx hb hts iX7_init_X7 hown hK hZ.2.2.2.2 k111 (rfl : hk_t 213 = (1, 7, 24)) rfl 18 (by decide) (hts (.fieldLink RX7 61 "NeighborBookModel" "sizes" "[I") (List.mem_of_getElem? (i := 23) rfl)) (fun _ h9 => h9) tyX7 tyX7_ok nmX7 (v := .ref b109) rfl rfl (by omega) hZ.1 rfl hin rfl dX7_init_126 (fun F H locs hM hO hS => ?_)
  have hZ := hp_step (k1 := 213) (k2 := 214) hZ.1 hZ.2.1 hZ.2.2.1 (Nat.le_trans hBz hS.1) hM hO hS k111 ((rfl : hk_t 214 = (1, 7, 24)).trans (rfl : hk_t 213 = (1, 7, 24)).symm) (by unfold hk_ok; omega) (by rw [(rfl : hk_t 214 = (1, 7, 24))]; decide) (fun a j hj _ h => by have := hk_sr (hZ.2.2.1 a) h hj; omega) (fun j hj h => by have := hk_sr (kd := 214) (by unfold hk_ok; omega) h hj; omega) ⟨b109, rfl, k112⟩ (fun j hj hl w hw => by
        have hl : j < 24 := by rw [(rfl : hk_t 213 = (1, 7, 24))] at hl; exact hl
        match j, hj, hl, hw with
        | 0, _, _, hw => exact hw
        | 1, _, _, hw => exact hw
        | 2, _, _, hw => exact hw
        | 3, _, _, hw => exact hw
        | 4, _, _, hw => exact hw
        | 5, _, _, hw => exact hw
        | 6, _, _, hw => exact hw
        | 7, _, _, hw => exact hw
        | 8, _, _, hw => exact hw
        | 9, _, _, hw => exact hw
        | 10, _, _, hw => exact hw
        | 11, _, _, hw => exact hw
        | 12, _, _, hw => exact hw
        | 13, _, _, hw => exact hw
        | 14, _, _, hw => exact hw
        | 15, _, _, hw => exact hw
        | 16, _, _, hw => exact hw
        | 17, _, _, hw => exact hw
        | 19, _, _, hw => exact hw
        | 20, _, _, hw => exact hw
        | 21, _, _, hw => exact hw
        | 22, _, _, hw => exact hw
        | 23, _, _, hw => exact hw
        | 18, hj, _, _ => exact absurd rfl hj
        | n9 + 24, _, hl, _ => exact absurd hl (by omega)) (fun h => absurd h (by decide))
  obtain ⟨κ113, eκ113⟩ : ∃ z, z = hp_kk κ110 h0 (214) := ⟨_, rfl⟩
  rw [← eκ113] at hZ
  have k114 : κ113 b109 = 30 := by rw [eκ113, hp_kk_n (fun h9 => by rw [h9, k111] at k112; omega)]; exact k112
  have k115 : κ113 h0 = 214 := by rw [eκ113]; exact hp_kk_s _ _ _
  have hm : ∀ a, a ≠ h0 → (κ113 a ≤ 30 ∧ κ113 a ≠ 11) ∨ κ113 a = 38 ∨ κ113 a = 39 ∨ 300 ≤ κ113 a := fun a ha => by rw [eκ113, hp_kk_n ha]; exact hm a ha
  have hR : ∀ a, κ a = 0 → κ113 a = 0 ∨ (18 ≤ κ113 a ∧ κ113 a ≤ 30) ∨ κ113 a = 38 ∨ κ113 a = 39 := fun a ha => by rw [eκ113, hp_kk_n (fun e9 => h0n (by rw [← e9]; exact ha))]; exact hR a ha
  have hQ : ∀ a, κ a ≠ 0 → a ≠ h0 → κ113 a = κ a := fun a h1 h2 => by rw [eκ113, hp_kk_n h2, hQ a h1 h2]
  refine lv_aload_n hx hb dX7_init_129 rfl (lv_at hl 0 rfl) ?_
  refine hq_sipush hx hb dX7_init_130 (by decide) (fun z116 ez116 => ?_)
  refine hp_newi (atype := .byte) (ty := 1) (N := 700) (kd := 39) hx hb (hts (.arrayClass .byte) (List.mem_of_getElem? (i := 4) rfl)) hK hZ (hK.2 1 _ rfl).2 rfl (by unfold hk_ok; omega) (fun _ k _ => ⟨0, rfl, by decide, by decide⟩) (fun h => absurd h (by decide)) (by omega) (by show 700 * 1 ≤ 536870912; omega) (by show 14 + 1 ≤ 15; omega) (by show 8449 + 700 ≤ 9149; omega) dX7_init_133 (fun b117 H zb117 hZ => ?_)
  refine W.cs (cells' := 15) (slots' := 9149) (by omega) (by omega) ?_
  obtain ⟨κ118, eκ118⟩ : ∃ z, z = hp_kk κ113 b117 (39) := ⟨_, rfl⟩
  rw [← eκ118] at hZ
  have k119 : κ118 h0 = 214 := by rw [eκ118, hp_kk_n (ne_k k115 zb117 (by omega))]; exact k115
  have k120 : κ118 b117 = 39 := by rw [eκ118]; exact hp_kk_s _ _ _
  have hm : ∀ a, a ≠ h0 → (κ118 a ≤ 30 ∧ κ118 a ≠ 11) ∨ κ118 a = 38 ∨ κ118 a = 39 ∨ 300 ≤ κ118 a := by
    intro a ha
    by_cases hab : a = b117
    · rw [hab, k120]; omega
    · rw [eκ118, hp_kk_n hab]; have := hm a ha; omega
  have hR : ∀ a, κ a = 0 → κ118 a = 0 ∨ (18 ≤ κ118 a ∧ κ118 a ≤ 30) ∨ κ118 a = 38 ∨ κ118 a = 39 := by
    intro a ha
    by_cases hab : a = b117
    · rw [hab, k120]; omega
    · rw [eκ118, hp_kk_n hab]; exact hR a ha
  have hQ : ∀ a, κ a ≠ 0 → a ≠ h0 → κ118 a = κ a := fun a h1 h2 => by rw [eκ118, hp_kk_n (fun e9 => h1 (by rw [← hQ a h1 h2, e9, zb117])), hQ a h1 h2]
  refine hp_putF (C := RX7) (T := TX7) (N := 24) (ci := 7) (kd := 214) hx hb hts iX7_init_X7 hown hK hZ.2.2.2.2 k119 (rfl : hk_t 214 = (1, 7, 24)) rfl 21 (by decide) (hts (.fieldLink RX7 64 "NeighborBookModel" "page" "[B") (List.mem_of_getElem? (i := 24) rfl)) (fun _ h9 => h9) tyX7 tyX7_ok nmX7 (v := .ref b117) rfl rfl (by omega) hZ.1 rfl hin rfl dX7_init_135 (fun F H locs hM hO hS => ?_)
  have hZ := hp_step (k1 := 214) (k2 := 215) hZ.1 hZ.2.1 hZ.2.2.1 (Nat.le_trans hBz hS.1) hM hO hS k119 ((rfl : hk_t 215 = (1, 7, 24)).trans (rfl : hk_t 214 = (1, 7, 24)).symm) (by unfold hk_ok; omega) (by rw [(rfl : hk_t 215 = (1, 7, 24))]; decide) (fun a j hj _ h => by have := hk_sr (hZ.2.2.1 a) h hj; omega) (fun j hj h => by have := hk_sr (kd := 215) (by unfold hk_ok; omega) h hj; omega) ⟨b117, rfl, k120⟩ (fun j hj hl w hw => by
        have hl : j < 24 := by rw [(rfl : hk_t 214 = (1, 7, 24))] at hl; exact hl
        match j, hj, hl, hw with
        | 0, _, _, hw => exact hw
        | 1, _, _, hw => exact hw
        | 2, _, _, hw => exact hw
        | 3, _, _, hw => exact hw
        | 4, _, _, hw => exact hw
        | 5, _, _, hw => exact hw
        | 6, _, _, hw => exact hw
        | 7, _, _, hw => exact hw
        | 8, _, _, hw => exact hw
        | 9, _, _, hw => exact hw
        | 10, _, _, hw => exact hw
        | 11, _, _, hw => exact hw
        | 12, _, _, hw => exact hw
        | 13, _, _, hw => exact hw
        | 14, _, _, hw => exact hw
        | 15, _, _, hw => exact hw
        | 16, _, _, hw => exact hw
        | 17, _, _, hw => exact hw
        | 18, _, _, hw => exact hw
        | 19, _, _, hw => exact hw
        | 20, _, _, hw => exact hw
        | 22, _, _, hw => exact hw
        | 23, _, _, hw => exact hw
        | 21, hj, _, _ => exact absurd rfl hj
        | n9 + 24, _, hl, _ => exact absurd hl (by omega)) (fun h => absurd h (by decide))
  obtain ⟨κ121, eκ121⟩ : ∃ z, z = hp_kk κ118 h0 (215) := ⟨_, rfl⟩
  rw [← eκ121] at hZ
  have k122 : κ121 b117 = 39 := by rw [eκ121, hp_kk_n (fun h9 => by rw [h9, k119] at k120; omega)]; exact k120
  have k123 : κ121 h0 = 215 := by rw [eκ121]; exact hp_kk_s _ _ _
  have hm : ∀ a, a ≠ h0 → (κ121 a ≤ 30 ∧ κ121 a ≠ 11) ∨ κ121 a = 38 ∨ κ121 a = 39 ∨ 300 ≤ κ121 a := fun a ha => by rw [eκ121, hp_kk_n ha]; exact hm a ha
  have hR : ∀ a, κ a = 0 → κ121 a = 0 ∨ (18 ≤ κ121 a ∧ κ121 a ≤ 30) ∨ κ121 a = 38 ∨ κ121 a = 39 := fun a ha => by rw [eκ121, hp_kk_n (fun e9 => h0n (by rw [← e9]; exact ha))]; exact hR a ha
  have hQ : ∀ a, κ a ≠ 0 → a ≠ h0 → κ121 a = κ a := fun a h1 h2 => by rw [eκ121, hp_kk_n h2, hQ a h1 h2]
  refine lv_aload_n hx hb dX7_init_138 rfl (lv_at hl 0 rfl) ?_
  refine hq_iconst hx hb dX7_init_139 (by decide) (by decide) (fun z124 ez124 => ?_)
  refine hp_putv (C := RX7) (T := TX7) (N := 24) (ci := 7) (kd := 215) hx hb hts iX7_init_X7 hown hK hZ.2.2.2.2 k123 (rfl : hk_t 215 = (1, 7, 24)) rfl 23 (by decide) (hts (.fieldLink RX7 67 "NeighborBookModel" "pagePort" "I") (List.mem_of_getElem? (i := 25) rfl)) (fun _ h9 => h9) tyX7 tyX7_ok nmX7 (v := .int z124) rfl rfl (by omega) hZ.1 rfl dX7_init_140 (fun F H locs hM hO hS => ?_)
  have hZ := hp_step (k1 := 215) (k2 := 11) hZ.1 hZ.2.1 hZ.2.2.1 (Nat.le_trans hBz hS.1) hM hO hS k123 ((rfl : hk_t 11 = (1, 7, 24)).trans (rfl : hk_t 215 = (1, 7, 24)).symm) (by unfold hk_ok; omega) (by rw [(rfl : hk_t 11 = (1, 7, 24))]; decide) (fun a j hj _ h => by have := hk_sr (hZ.2.2.1 a) h hj; omega) (fun j hj h => by have := hk_sr (kd := 11) (by unfold hk_ok; omega) h hj; omega) ⟨z124, rfl, (show z124.toInt = g 11 23 by rw [hg2]; exact ez124)⟩ (fun j hj hl w hw => by
        have hl : j < 24 := by rw [(rfl : hk_t 215 = (1, 7, 24))] at hl; exact hl
        match j, hj, hl, hw with
        | 0, _, _, hw => exact hw
        | 1, _, _, hw => obtain ⟨x9, hx1, hx2, hx3⟩ := (show ∃ x : Int32, w = .int x ∧ 0 ≤ x.toInt ∧ x.toInt ≤ ((0 : Nat) : Int) from hw); exact ⟨x9, hx1, (show x9.toInt = g 11 1 by rw [hg 11 1 (by decide)]; omega)⟩
        | 2, _, _, hw => exact hw
        | 3, _, _, hw => exact hw
        | 4, _, _, hw => exact hw
        | 5, _, _, hw => exact hw
        | 6, _, _, hw => exact hw
        | 7, _, _, hw => exact hw
        | 8, _, _, hw => exact hw
        | 9, _, _, hw => exact hw
        | 10, _, _, hw => exact hw
        | 11, _, _, hw => exact hw
        | 12, _, _, hw => exact hw
        | 13, _, _, hw => obtain ⟨x9, hx1, hx2, hx3⟩ := (show ∃ x : Int32, w = .int x ∧ 0 ≤ x.toInt ∧ x.toInt ≤ ((0 : Nat) : Int) from hw); exact ⟨x9, hx1, (show x9.toInt = g 11 13 by rw [hg 11 13 (by decide)]; omega)⟩
        | 14, _, _, hw => exact hw
        | 15, _, _, hw => exact hw
        | 16, _, _, hw => exact hw
        | 17, _, _, hw => exact hw
        | 18, _, _, hw => exact hw
        | 19, _, _, hw => obtain ⟨x9, hx1, hx2, hx3⟩ := (show ∃ x : Int32, w = .int x ∧ 0 ≤ x.toInt ∧ x.toInt ≤ ((0 : Nat) : Int) from hw); exact ⟨x9, hx1, (show x9.toInt = g 11 19 by rw [hg 11 19 (by decide)]; omega)⟩
        | 20, _, _, hw => obtain ⟨x9, hx1, hx2, hx3⟩ := (show ∃ x : Int32, w = .int x ∧ 0 ≤ x.toInt ∧ x.toInt ≤ ((0 : Nat) : Int) from hw); exact ⟨x9, hx1, (show x9.toInt = g 11 20 by rw [hg 11 20 (by decide)]; omega)⟩
        | 21, _, _, hw => exact hw
        | 22, _, _, hw => obtain ⟨x9, hx1, hx2, hx3⟩ := (show ∃ x : Int32, w = .int x ∧ 0 ≤ x.toInt ∧ x.toInt ≤ ((0 : Nat) : Int) from hw); exact ⟨x9, hx1, (show x9.toInt = g 11 22 by rw [hg 11 22 (by decide)]; omega)⟩
        | 23, hj, _, _ => exact absurd rfl hj
        | n9 + 24, _, hl, _ => exact absurd hl (by omega)) (fun _ a h9 => by by_cases ha : a = h0; (rw [ha, k123] at h9; omega); (have := hm a ha; omega))
  obtain ⟨κ125, eκ125⟩ : ∃ z, z = hp_kk κ121 h0 (11) := ⟨_, rfl⟩
  rw [← eκ125] at hZ
  have k126 : κ125 h0 = 11 := by rw [eκ125]; exact hp_kk_s _ _ _
  have hR : ∀ a, κ a = 0 → κ125 a = 0 ∨ (18 ≤ κ125 a ∧ κ125 a ≤ 30) ∨ κ125 a = 38 ∨ κ125 a = 39 := fun a ha => by rw [eκ125, hp_kk_n (fun e9 => h0n (by rw [← e9]; exact ha))]; exact hR a ha
  have hQ : ∀ a, κ a ≠ 0 → a ≠ h0 → κ125 a = κ a := fun a h1 h2 => by rw [eκ125, hp_kk_n h2, hQ a h1 h2]
  refine hq_iconst hx hb dX7_init_143 (by decide) (by decide) (fun z127 ez127 => ?_)
  refine lv_istore_n (lv' := [(1, .int z127), (0, .ref h0)]) hx hb dX7_init_144 rfl hl (by decide) rfl (fun ls hl => ?_)
  have hJ := hZ.2.2.2.2
  have hW := hZ.1
  have lp502 : ∀ (nlp502 : Nat) (v501 : Int32) (H : Heap) (locs : List Loc) (ls : Array Slot), (0 ≤ v501.toInt) → (v501.toInt ≤ 9) → (10 - v501.toInt < (nlp502 : Int)) → hp_J dC dI dA κ125 B g s.heap H locs → lv_has ls 2 [(0, .ref h0), (1, .int v501)] → W p l e (headSpec wsX7_init ({ frames := 1, cells := 15, slots := 9149, locals := 12 } : Room)).room s m ([Value.ref h0] : List Value).toArray below meth c H locs 15 9149 (MQ below (hp_QU dC dI dA B g (fun κ' => κ' h0 = 11 ∧ (∀ a, κ a ≠ 0 → a ≠ h0 → κ' a = κ a) ∧ ∀ a, κ a = 0 → κ' a = 0 ∨ (18 ≤ κ' a ∧ κ' a ≤ 30) ∨ κ' a = 38 ∨ κ' a = 39)) ([Value.ref h0] : List Value).toArray s 15 9149 (hp_A B)) (F0 m 145 ls []) := by
    intro nlp502
    induction nlp502 with
    | zero => intro v501 H locs ls iv504 iv505 hm503 hJ hl; exact absurd hm503 (by omega)
    | succ nlp502 ihlp502 =>
      intro v501 H locs ls iv504 iv505 hm503 hJ hl
      refine lv_iload_n hx hb dX7_init_145 rfl (lv_at hl 1 rfl) ?_
      refine hq_bipush hx hb dX7_init_146 (by decide) (fun z506 ez506 => ?_)
      refine hq_icmp_ge (tgt := 178) hx hb dX7_init_148 (by decide) (fun c507 => ?_) (fun c507 => ?_)
      · exact hp_Uret hx hb hK hN hAO hlocks (⟨hZ.1, hZ.2.1, hZ.2.2.1, Nat.le_trans hBz hJ.2.1, hJ⟩ : hp_Z dC dI dA κ125 B g s.heap H locs) hr ⟨k126, hQ, hR⟩ dX7_init_178
      · refine lv_aload_n hx hb dX7_init_151 rfl (lv_at hl 0 rfl) ?_
        refine hp_getr (C := RX7) (T := TX7) (N := 24) (ci := 7) (kd := 11) hx hb hts iX7_init_X7 hown hK hJ k126 rfl rfl 3 (by decide) (hts (.fieldLink RX7 16 "NeighborBookModel" "ownSizes" "[I") (List.mem_of_getElem? (i := 8) rfl)) (fun _ h9 => h9) rfl dX7_init_152 (fun b508 kb508 => ?_)
        refine lv_iload_n hx hb dX7_init_155 rfl (lv_at hl 1 rfl) ?_
        refine lv_iload_n hx hb dX7_init_156 rfl (lv_at hl 1 rfl) ?_
        refine hq_iconst hx hb dX7_init_157 (by decide) (by decide) (fun z509 ez509 => ?_)
        refine hq_icmp_eq (tgt := 166) hx hb dX7_init_158 (by decide) (fun c510 => ?_) (fun c510 => ?_)
        · refine hq_iconst hx hb dX7_init_166 (by decide) (by decide) (fun z511 ez511 => ?_)
          refine lv_goto (tgt := 171) hx hb dX7_init_167 (by decide) ?_
          refine hp_iast (kd := 19) (n := 9) hx hb hK hJ kb508 rfl (by omega) (by omega) (by decide) hW (sp := (3, 60)) rfl rfl (show _ ∧ _ from by constructor <;> omega) dX7_init_171 (fun H locs hJ => ?_)
          refine hq_iinc (k := 1) (lv' := fun (z9 : Int32) => [(1, .int z9), (0, .ref h0)]) hx hb dX7_init_172 hl rfl (by decide) (by decide) (by omega) (by omega) (by decide) (fun _ => rfl) (fun x512 ls ex512 hl => ?_)
          have hl : lv_has ls 2 [(1, .int x512), (0, .ref h0)] := hl
          refine lv_goto (tgt := 145) hx hb dX7_init_175 (by decide) ?_
          exact ihlp502 x512 _ _ ls (by omega) (by omega) (by omega) hJ (lv_sub hl [1, 0] rfl)
        · refine lv_iload_n hx hb dX7_init_161 rfl (lv_at hl 1 rfl) ?_
          refine hq_iconst hx hb dX7_init_162 (by decide) (by decide) (fun z513 ez513 => ?_)
          refine hq_icmp_ne (tgt := 170) hx hb dX7_init_163 (by decide) (fun c514 => ?_) (fun c514 => ?_)
          · refine hq_iconst hx hb dX7_init_170 (by decide) (by decide) (fun z515 ez515 => ?_)
            refine hp_iast (kd := 19) (n := 9) hx hb hK hJ kb508 rfl (by omega) (by omega) (by decide) hW (sp := (3, 60)) rfl rfl (show _ ∧ _ from by constructor <;> omega) dX7_init_171 (fun H locs hJ => ?_)
            refine hq_iinc (k := 1) (lv' := fun (z9 : Int32) => [(1, .int z9), (0, .ref h0)]) hx hb dX7_init_172 hl rfl (by decide) (by decide) (by omega) (by omega) (by decide) (fun _ => rfl) (fun x516 ls ex516 hl => ?_)
            have hl : lv_has ls 2 [(1, .int x516), (0, .ref h0)] := hl
            refine lv_goto (tgt := 145) hx hb dX7_init_175 (by decide) ?_
            exact ihlp502 x516 _ _ ls (by omega) (by omega) (by omega) hJ (lv_sub hl [1, 0] rfl)
          · refine hq_iconst hx hb dX7_init_166 (by decide) (by decide) (fun z517 ez517 => ?_)
            refine lv_goto (tgt := 171) hx hb dX7_init_167 (by decide) ?_
            refine hp_iast (kd := 19) (n := 9) hx hb hK hJ kb508 rfl (by omega) (by omega) (by decide) hW (sp := (3, 60)) rfl rfl (show _ ∧ _ from by constructor <;> omega) dX7_init_171 (fun H locs hJ => ?_)
            refine hq_iinc (k := 1) (lv' := fun (z9 : Int32) => [(1, .int z9), (0, .ref h0)]) hx hb dX7_init_172 hl rfl (by decide) (by decide) (by omega) (by omega) (by decide) (fun _ => rfl) (fun x518 ls ex518 hl => ?_)
            have hl : lv_has ls 2 [(1, .int x518), (0, .ref h0)] := hl
            refine lv_goto (tgt := 145) hx hb dX7_init_175 (by decide) ?_
            exact ihlp502 x518 _ _ ls (by omega) (by omega) (by omega) hJ (lv_sub hl [1, 0] rfl)
  exact lp502 ((10 - z127.toInt).toNat + 1) z127 _ _ ls (by omega) (by omega) (by omega) hJ (lv_sub hl [1, 0] rfl)
end
section
theorem hp_alenS {p : Program} {l : Launch} {e : Env} {R : Room} {s : State} {m : MethodId} {args : Array Value} {below : List Frame} {meth : Method} {c : Code} {H : Heap} {locs : List Loc} {cells slots : Nat} {Q : State → Prop} {cc : ByteArray} {pc : Nat} {ls : Array Slot} {rest : List Value} {n : Int32} {a : Addr} {cell : Cell} {ty : FieldType} (hx : p.tables.exec = Jvm.exec) (hb : c.code = cc) (hcell : H[a]? = some cell) (harr : s.isArrayOf cell ty) (hn : cell.slots.size.toInt32 = n) (hdg : decode cc pc = .ok (.arraylength, 1)) (kk : W p l e R s m args below meth c H locs cells slots Q (F0 m (pc + 1) ls (.int n :: rest))) : W p l e R s m args below meth c H locs cells slots Q (F0 m pc ls (.ref a :: rest)) := W.alen hx hb hcell harr hn rfl rfl hdg kk
theorem iX0_keep_X0 : ∀ w ∈ wsX00, w ∈ wsX0_keep := fun _ h => List.mem_cons_of_mem _ (List.mem_append_right _ h)
set_option maxRecDepth 100000 in
set_option maxHeartbeats 4000000 in
theorem c_X0_keepS (l : Launch) (dC : Nat → ClassId) (dI : Nat → Nat → Nat) (dA : Nat → ClassId) (κ : Nat → Nat) (B : Nat) (g : Nat → Nat → Int) (h0 : Nat) (k0 : κ h0 = 333) (type : Int32) (frm : Nat) (start : Int32) (size : Int32) : Met l yX0_keep wsX0_keep ({ frames := 2, cells := 0, slots := 0, locals := 40 } : Room) (va_Pc [Value.ref h0, Value.int type, Value.ref frm, Value.int start, Value.int size] (fun U => hp_S dC dI dA κ B g U ∧ va_T .byte frm 2 (fun _ => .int 0) (hp_A B) U U.heap)) (hp_Qv dC dI dA κ B (fun u => g = u)) 0 0 (hp_A B) := by
  refine Met.ofW (cc := cX0_keep) (maxL := 5) (ret := none) (by decide) rfl ?_
  intro p e s m args below meth c s₁ Bd hml hv
  obtain ⟨rfl, ⟨hK, hN, hW, hF⟩, hT⟩ := hv
  obtain ⟨cs, hc1, hc2, hc3, hc4, hc5, hc6, hc7⟩ := hT
  have hcl : frm < s.heap.size := (Array.getElem?_eq_some_iff.mp hc1).1
  have hx := Bd.exec
  have hb := Bd.bytes
  have hr := Bd.returns
  have hts := atoms_spec (ws := wsX0_keep) Bd.pre
  have hown : s.vm.findClass RX0 = some m.cls := findClass_of_methodNamed Bd.named
  have hlocks := Bd.notSynchronized
  have hJ : hp_J dC dI dA κ B g s.heap s.heap [] := ⟨hF, va_S.rf⟩
  have hl := lv_entry ([Value.ref h0, Value.int type, Value.ref frm, Value.int start, Value.int size]) (n := 5) (Nat.le_of_ble_eq_true rfl)
  rw [lg_entry_eq]
  generalize (lg_sl ([Value.ref h0, Value.int type, Value.ref frm, Value.int start, Value.int size]) ++ List.replicate (5 - (lg_sl ([Value.ref h0, Value.int type, Value.ref frm, Value.int start, Value.int size])).length) Slot.unset).toArray = ls at hl ⊢
  have hl : lv_has ls 5 [(0, .ref h0), (1, .int type), (2, .ref frm), (3, .int start), (4, .int size)] := hl
  refine lv_iload_n hx hb dX0_keep_0 rfl (lv_at hl 1 rfl) ?_
  refine hp_calli (va_runS (As := [.int type]) (rest := []) ⟨hx, hb, hml, hown, hts⟩ (c_X0_isKept l dC dI dA κ B g type) (va_cwS 1 hts gX0_keep_X0_isKept rfl rfl rfl (by decide +kernel) ⟨Nat.le_of_ble_eq_true rfl, Nat.le_of_ble_eq_true rfl⟩) (hp_preS [.int type] hK hN hW hJ) rfl rfl hl.1 rfl (lv_room (Nat.le_of_ble_eq_true rfl)) dX0_keep_1 ⟨Nat.zero_le _, Nat.zero_le _⟩) hJ (fun x2 g1 H locs hp hJ => ?_)
  obtain ⟨rfl, f3⟩ := hp
  refine hq_if_eq (tgt := 55) hx hb dX0_keep_4 (by decide) (fun c4 => ?_) (fun c4 => ?_)
  · exact hp_vret hx hb hK hN hW hlocks hJ hr rfl dX0_keep_55
  · refine lv_iload hx hb dX0_keep_7 (lv_at hl 4 rfl) ?_
    refine hq_if_lt (tgt := 55) hx hb dX0_keep_9 (by decide) (fun c5 => ?_) (fun c5 => ?_)
    · exact hp_vret hx hb hK hN hW hlocks hJ hr rfl dX0_keep_55
    · refine lv_iload hx hb dX0_keep_12 (lv_at hl 4 rfl) ?_
      refine hq_bipush hx hb dX0_keep_14 (by decide) (fun z6 ez6 => ?_)
      refine hq_icmp_gt (tgt := 55) hx hb dX0_keep_16 (by decide) (fun c7 => ?_) (fun c7 => ?_)
      · exact hp_vret hx hb hK hN hW hlocks hJ hr rfl dX0_keep_55
      · refine lv_iload_n hx hb dX0_keep_19 rfl (lv_at hl 3 rfl) ?_
        refine hq_if_lt (tgt := 55) hx hb dX0_keep_20 (by decide) (fun c8 => ?_) (fun c8 => ?_)
        · exact hp_vret hx hb hK hN hW hlocks hJ hr rfl dX0_keep_55
        · refine lv_iload_n hx hb dX0_keep_23 rfl (lv_at hl 3 rfl) ?_
          refine lv_aload_n hx hb dX0_keep_24 rfl (lv_at hl 2 rfl) ?_
          refine hp_alenS (cell := cs) (n := Int32.ofNat 2) hx hb (by rw [hJ.2.2.1 frm hcl hc7]; exact hc1) hc2 hc5 dX0_keep_25 ?_
          refine lv_topi (fun x9 fx9 => ?_)
          have ex9 : x9.toInt = 2 := by rw [fx9]; rfl
          refine lv_iload hx hb dX0_keep_26 (lv_at hl 4 rfl) ?_
          refine hq_isub hx hb dX0_keep_28 (by omega) (by omega) (fun x10 ex10 => ?_)
          refine hq_icmp_gt (tgt := 55) hx hb dX0_keep_29 (by decide) (fun c11 => ?_) (fun c11 => ?_)
          · exact hp_vret hx hb hK hN hW hlocks hJ hr rfl dX0_keep_55
          · refine lv_aload_n hx hb dX0_keep_32 rfl (lv_at hl 2 rfl) ?_
            refine lv_iload_n hx hb dX0_keep_33 rfl (lv_at hl 3 rfl) ?_
            refine lv_aload_n hx hb dX0_keep_34 rfl (lv_at hl 0 rfl) ?_
            refine hp_getr (C := RX0) (T := TX0) (N := 2) (ci := 0) (kd := 333) hx hb hts iX0_keep_X0 hown hK hJ k0 rfl rfl 1 (by decide) (hts (.fieldLink RX0 15 "NeighborBook$Contents" "bytes" "[B") (List.mem_of_getElem? (i := 1) rfl)) (fun _ h9 => h9) rfl dX0_keep_35 (fun b12 kb12 => ?_)
            refine lv_iload_n hx hb dX0_keep_38 rfl (lv_at hl 1 rfl) ?_
            refine hp_calli (va_runS (As := [.int type]) (rest := [.ref b12, .int start, .ref frm]) ⟨hx, hb, hml, hown, hts⟩ (c_X0_startOf l dC dI dA κ B g type (by omega) (by omega)) (va_cwS 1 hts gX0_keep_X0_startOf rfl rfl rfl (by decide +kernel) ⟨Nat.le_of_ble_eq_true rfl, Nat.le_of_ble_eq_true rfl⟩) (hp_preS [.int type] hK hN hW hJ) rfl rfl hl.1 rfl (lv_room (Nat.le_of_ble_eq_true rfl)) dX0_keep_39 ⟨Nat.zero_le _, Nat.zero_le _⟩) hJ (fun x14 g13 H locs hp hJ => ?_)
            obtain ⟨rfl, f15⟩ := hp
            refine lv_iload hx hb dX0_keep_42 (lv_at hl 4 rfl) ?_
            refine hp_copyg hx hb (hml.trans hl.1.symm) hown (hts (.methodLink RX0 39 arraycopyName) (List.mem_of_getElem? (i := 2) rfl)) (hts (.native arraycopyName) (List.mem_of_getElem? (i := 3) rfl)) (hts (.static arraycopyName) (List.mem_of_getElem? (i := 4) rfl)) (hts (.initialized "java/lang/System") (List.mem_of_getElem? (i := 5) rfl)) hK hW hJ (cs := cs) (by rw [hJ.2.2.1 frm hcl hc7]; exact hc1) hc2 hc3 kb12 (by omega) (by omega) (by omega) (by omega) (by omega) (fun i hi => ⟨0, hc6 i (by omega), by decide, by decide⟩) (Nat.le_of_ble_eq_true rfl) (Nat.le_of_ble_eq_true rfl) dX0_keep_44 (fun H locs hJ => ?_)
            refine lv_aload_n hx hb dX0_keep_47 rfl (lv_at hl 0 rfl) ?_
            refine hp_getr (C := RX0) (T := TX0) (N := 2) (ci := 0) (kd := 333) hx hb hts iX0_keep_X0 hown hK hJ k0 rfl rfl 0 (by decide) (hts (.fieldLink RX0 9 "NeighborBook$Contents" "sizes" "[I") (List.mem_of_getElem? (i := 6) rfl)) (fun _ h9 => h9) rfl dX0_keep_48 (fun b16 kb16 => ?_)
            refine lv_iload_n hx hb dX0_keep_51 rfl (lv_at hl 1 rfl) ?_
            refine lv_iload hx hb dX0_keep_52 (lv_at hl 4 rfl) ?_
            refine hp_iast (kd := 353) (n := 9) hx hb hK hJ kb16 rfl (by omega) (by omega) (by decide) hW (hk_s340 (q := 13) (by omega) _) (hs13_n _) (hs13_o (by omega) (by omega)) dX0_keep_54 (fun H locs hJ => ?_)
            exact hp_vret hx hb hK hN hW hlocks hJ hr rfl dX0_keep_55
theorem hp_preK {dC : Nat → ClassId} {dI : Nat → Nat → Nat} {dA : Nat → ClassId} {κ : Nat → Nat} {B : Nat} {g : Nat → Nat → Int} {H : Heap} {locs : List Loc} {s : State} {b kd ci N tF : Nat} {q : vw_C} (As : List Value) (hK : va_K (dC, dI) vwCl (hp_ty dA) s) (hN : hp_N s) (hW : hp_W κ B) (hJ : hp_J dC dI dA κ B g s.heap H locs) (hT : va_T .byte tF 2 (fun _ => .int 0) (hp_A B) s s.heap) (hκ : κ b = kd) (ht : hk_t kd = (1, ci, N)) (hc : vwCl[ci]? = some q) : PreV s H q.1 b (va_Pc (.ref b :: As) (fun U => hp_S dC dI dA κ B g U ∧ va_T .byte tF 2 (fun _ => .int 0) (hp_A B) U U.heap)) As := by
  obtain ⟨-, h2, h3⟩ := hp_preV (q := q) As hK hN hW hJ hκ ht hc
  refine ⟨fun a U f mk h => ?_, h2, fun U hU hw => ⟨rfl, (h3 U hU hw).2, ?_⟩⟩
  · obtain ⟨h0, ⟨g1, g2, g3, g4⟩, g5⟩ := h
    exact ⟨h0, ⟨va_K.moved (u := U) (U := U.calling f mk a) (Vm.Alike.refl U.vm) g1, hp_N.same rfl g2, g3, g4⟩, va_T.moved (u := U) (U := U.calling f mk a) (Vm.Alike.refl U.vm) g5⟩
  · rw [hU]
    exact (va_T.moved hw.alike hT).kept (fun a h1 h2 => hJ.2.2.1 a h1 h2)
end
section
/-- kinds that are there while the book is made -/
def hl_P (L : List Nat) (n : Nat) (C : Prop) : Prop := n ∈ L ∨ (300 ≤ n ∧ n < 380 ∧ (n < 312 ∨ 320 ≤ n) ∧ C)
theorem hl_mono {L L' : List Nat} (h : (L.all fun x => decide (x ∈ L')) = true) {n : Nat} (hn : n ∈ L) : n ∈ L' := of_decide_eq_true (List.all_eq_true.mp h n hn)
theorem hl_P.mono {L L' : List Nat} {n : Nat} {C C' : Prop} (hn : hl_P L n C) (h : (L.all fun x => decide (x ∈ L')) = true) (hc : C → C') : hl_P L' n C' := hn.elim (fun h1 => Or.inl (hl_mono h h1)) (fun h1 => Or.inr ⟨h1.1, h1.2.1, h1.2.2.1, hc h1.2.2.2⟩)
theorem hl_ne {L : List Nat} {n c : Nat} {C : Prop} (hn : hl_P L n C) (hc : (L.all fun x => decide (x ≠ c)) = true) (hc3 : c < 300) : n ≠ c := hn.elim (fun h1 => of_decide_eq_true (List.all_eq_true.mp hc n h1)) (fun h1 => by omega)
theorem hl_col {L : List Nat} {n : Nat} {C : Prop} (hn : hl_P L n C) (hc : (L.all fun x => decide (x < 300)) = true) (h : 300 ≤ n) : C := hn.elim (fun h1 => absurd (of_decide_eq_true (p := n < 300) (List.all_eq_true.mp hc n h1)) (by omega)) (fun h1 => h1.2.2.2)
theorem hl_48 {L : List Nat} {n : Nat} {C : Prop} (hn : hl_P L n C) (hc : (L.all fun x => decide (x < 40 ∨ 80 ≤ x)) = true) : n < 40 ∨ 80 ≤ n := hn.elim (fun h1 => of_decide_eq_true (p := n < 40 ∨ 80 ≤ n) (List.all_eq_true.mp hc n h1)) (fun h1 => by omega)
theorem hl_b {L : List Nat} {n i : Nat} {C : Prop} (hi : i ≤ 4) (h1 : (L.all fun x => decide (x ≤ 17 ∧ x ≠ 11 ∧ x ≠ 1)) = true) (h2 : (L.all fun x => decide (x < 5 ∨ 8 < x)) = true) (hn : hl_P L n C ∨ (5 ≤ n ∧ n < 5 + i)) : ((n ≤ 17 ∧ n ≠ 11 ∧ n ≠ 1) ∨ (300 ≤ n ∧ n < 380 ∧ (n < 312 ∨ 320 ≤ n))) ∧ (n < 5 ∨ 8 < n ∨ n < 5 + i) := by
  rcases hn with hn | hn
  · rcases hn with hn | hn
    · have a1 := of_decide_eq_true (p := n ≤ 17 ∧ n ≠ 11 ∧ n ≠ 1) (List.all_eq_true.mp h1 n hn)
      have a2 := of_decide_eq_true (p := n < 5 ∨ 8 < n) (List.all_eq_true.mp h2 n hn)
      omega
    · omega
  · omega
theorem hl_e {L : List Nat} {n i : Nat} {C : Prop} (hi : i ≤ 4) (h1 : (L.all fun x => decide (x ≤ 17 ∧ x ≠ 11 ∧ x ≠ 1)) = true) (h2 : (L.all fun x => decide (x < 5 ∨ 8 < x)) = true) (hn : hl_P L n C ∨ (5 ≤ n ∧ n < 5 + i)) : n ≠ 1 ∧ (i < 4 → n ≠ 5 + i) ∧ (n < 40 ∨ 300 ≤ n) ∧ ((n ≤ 17 ∧ n ≠ 11) ∨ (300 ≤ n ∧ n < 380 ∧ (n < 312 ∨ 320 ≤ n))) := by
  obtain ⟨a1, a2⟩ := hl_b hi h1 h2 hn
  refine ⟨by omega, by omega, by omega, ?_⟩
  rcases a1 with a1 | a1
  · exact Or.inl ⟨a1.1, a1.2.1⟩
  · exact Or.inr a1
theorem nn_w {n i : Nat} (h : n < 40 ∨ 300 ≤ n) (hi : i ≤ 4) : n ≠ 80 + i ∧ n ≠ 110 + i := by omega
theorem nn_s8 {kd j i : Nat} (ho : hk_ok kd) (hj : j < (hk_t kd).2.2) (hi : i ≤ 4) (h : hk_s kd j = (4, 80 + i)) : 100 ≤ kd ∧ kd < 120 := by
  have := hk_sr ho h hj
  omega
theorem nn_t8 {kd j i : Nat} (ho : hk_ok kd) (hj : j < (hk_t kd).2.2) (hi : i ≤ 4) : hk_s kd j ≠ (4, 110 + i) := fun h => by
  have := hk_sr ho h hj
  omega
theorem nn_x {n : Nat} (h : n < 40 ∨ 300 ≤ n) (h2 : 100 ≤ n ∧ n < 120) : False := by omega
theorem hl_rm {L L' : List Nat} {n c : Nat} {C : Prop} (hn : hl_P L n C) (hc : n ≠ c) (h : (L.all fun x => decide (x = c ∨ x ∈ L')) = true) : hl_P L' n C := hn.elim (fun h1 => Or.inl ((of_decide_eq_true (p := n = c ∨ n ∈ L') (List.all_eq_true.mp h n h1)).elim (fun e => absurd e hc) id)) Or.inr
end
section
theorem iX6_init_X6 : ∀ w ∈ wsX60, w ∈ wsX6_init := fun _ h => List.mem_cons_of_mem _ (List.mem_append_left _ (List.mem_append_left _ (List.mem_append_left _ (List.mem_append_left _ (List.mem_append_left _ (List.mem_append_left _ (List.mem_append_right _ h)))))))
theorem iX6_init_X0 : ∀ w ∈ wsX00, w ∈ wsX6_init := fun _ h => List.mem_cons_of_mem _ (List.mem_append_left _ (List.mem_append_left _ (List.mem_append_left _ (List.mem_append_left _ (List.mem_append_left _ (List.mem_append_right _ h))))))
theorem iX6_init_X3 : ∀ w ∈ wsX30, w ∈ wsX6_init := fun _ h => List.mem_cons_of_mem _ (List.mem_append_left _ (List.mem_append_left _ (List.mem_append_left _ (List.mem_append_left _ (List.mem_append_right _ h)))))
theorem iX6_init_X1 : ∀ w ∈ wsX10, w ∈ wsX6_init := fun _ h => List.mem_cons_of_mem _ (List.mem_append_left _ (List.mem_append_left _ (List.mem_append_left _ (List.mem_append_right _ h))))
theorem iX6_init_X5 : ∀ w ∈ wsX50, w ∈ wsX6_init := fun _ h => List.mem_cons_of_mem _ (List.mem_append_left _ (List.mem_append_left _ (List.mem_append_right _ h)))
theorem iX6_init_X4 : ∀ w ∈ wsX40, w ∈ wsX6_init := fun _ h => List.mem_cons_of_mem _ (List.mem_append_left _ (List.mem_append_right _ h))
theorem iX6_init_X2 : ∀ w ∈ wsX20, w ∈ wsX6_init := fun _ h => List.mem_cons_of_mem _ (List.mem_append_right _ h)
set_option maxRecDepth 100000 in
set_option maxHeartbeats 8000000 in
theorem lp_X6_init (l : Launch) {p : Program} {e : Env} {s : State} {m : MethodId} {below : List Frame} {meth : Method} {c : Code} {dC : Nat → ClassId} {dI : Nat → Nat → Nat} {dA : Nat → ClassId} {B : Nat} {g : Nat → Nat → Int} {h0 tF b20 : Nat} (hx : p.tables.exec = Jvm.exec) (hb : c.code = cX6_init) (hr : meth.sig.returnType = none) (hts : ∀ w ∈ wsX6_init, w.before ([Value.ref h0] : List Value).toArray s = true) (hown : s.vm.findClass RX6 = some m.cls) (hlocks : meth.locks = false) (hml : c.maxLocals = 2) (hK : va_K (dC, dI) vwCl (hp_ty dA) s) (hN : hp_N s) (hAO : va_AO RX4 s ∧ va_AO RX2 s) (hBz : B ≤ s.heap.size) (hZs : va_Z RX6 "FIRST_NAME" "[B" (.ref tF) (hp_A B) s s.heap) (hT : va_T .byte tF 2 (fun _ => .int 0) (hp_A B) s s.heap) (hg1 : ∀ k : Nat, g 1 k = 0) (hgp : ∀ a k : Nat, 5 ≤ a → a ≤ 8 → g a k = 0) : ∀ (n i : Nat) (v : Int32) (κi : Nat → Nat) (H : Heap) (locs : List Loc) (ls : Array Slot), i ≤ 4 → v.toInt = (i : Int) → 4 - i < n → κi h0 = 110 + i → κi b20 = 80 + i → (∀ a, a ≠ h0 → a ≠ b20 → (hl_P [0, 3, 4, 10, 12, 16, 17] (κi a) ((κi a - 300) % 20 < 14) ∨ (5 ≤ κi a ∧ κi a < 5 + i))) → hp_Z dC dI dA κi B g s.heap H locs → lv_has ls 2 [(0, .ref h0), (1, .int v)] → W p l e (headSpec wsX6_init ({ frames := 5, cells := 65, slots := 7268, locals := 104 } : Room)).room s m ([Value.ref h0] : List Value).toArray below meth c H locs (61 + i) (7244 + 6 * i) (MQ below (hp_QU dC dI dA B g (fun κ' => κ' h0 = 1 ∧ ∀ a, (κ' a ≤ 17 ∧ κ' a ≠ 11) ∨ (300 ≤ κ' a ∧ κ' a < 380 ∧ (κ' a < 312 ∨ 320 ≤ κ' a)))) ([Value.ref h0] : List Value).toArray s 65 7268 (hp_A B)) (F0 m 83 ls [])  := by
  intro n
  induction n with
  | zero => intro i v κi H locs ls h1 h2 h3; exact absurd h3 (by omega)
  | succ n ih =>
    intro i v κi H locs ls hi hv hn kh kb hm hZ hl
    have hub : ∀ a, κi a = 80 + i → a = b20 := fun a h => Classical.byContradiction fun hab => by
      by_cases ha : a = h0
      · rw [ha, kh] at h; omega
      · exact (nn_w (hl_e hi (by decide) (by decide) (hm a ha hab)).2.2.1 hi).1 h
    refine lv_iload_n hx hb dX6_init_83 rfl (lv_at hl 1 rfl) ?_
    refine hq_iconst hx hb dX6_init_84 (by decide) (by decide) (fun z9 ez9 => ?_)
    refine hq_icmp_ge (tgt := 107) hx hb dX6_init_85 (by decide) (fun c9 => ?_) (fun c9 => ?_)
    · have hi4 : i = 4 := by omega
      subst hi4
      have hZ := hp_fin4 (b := b20) (h0 := h0) hZ kb kh hub (fun a h9 => by
        by_cases ha : a = h0
        · rw [ha, kh] at h9; omega
        · by_cases hab : a = b20
          · rw [hab, kb] at h9; omega
          · exact (hl_e hi (by decide) (by decide) (hm a ha hab)).1 h9) hg1 (fun a ha => by
        by_cases hab : a = b20
        · exact Or.inr (Or.inl ⟨by rw [hab]; exact kb, hab⟩)
        · exact (hl_e hi (by decide) (by decide) (hm a ha hab)).2.2.1.elim Or.inl (fun h9 => Or.inr (Or.inr h9)))
      have hbh : b20 ≠ h0 := fun e9 => by rw [e9, kh] at kb; omega
      obtain ⟨κf, ef⟩ : ∃ z, z = hp_kk (hp_kk κi b20 15) h0 1 := ⟨_, rfl⟩
      rw [← ef] at hZ
      have kf : κf h0 = 1 := by rw [ef]; exact hp_kk_s _ _ _
      have hDf : ∀ a, (κf a ≤ 17 ∧ κf a ≠ 11) ∨ (300 ≤ κf a ∧ κf a < 380 ∧ (κf a < 312 ∨ 320 ≤ κf a)) := by
        intro a
        by_cases ha : a = h0
        · rw [ha, kf]; omega
        · by_cases hab : a = b20
          · rw [hab, ef, hp_kk_n hbh, hp_kk_s]; omega
          · rw [ef, hp_kk_n ha, hp_kk_n hab]; exact (hl_e hi (by decide) (by decide) (hm a ha hab)).2.2.2
      refine lv_aload_n hx hb dX6_init_107 rfl (lv_at hl 0 rfl) ?_
      refine hp_getr (C := RX6) (T := TX6) (N := 12) (ci := 6) (kd := 1) hx hb hts iX6_init_X6 hown hK hZ.2.2.2.2 kf rfl rfl 2 (by decide) (hts (.fieldLink RX6 16 "NeighborBook" "told" "LNeighborBook$Contents;") (List.mem_of_getElem? (i := 9) rfl)) (fun _ h9 => h9) rfl dX6_init_108 (fun t70 kt70 => ?_)
      refine hq_iconst hx hb dX6_init_111 (by decide) (by decide) (fun z71 ez71 => ?_)
      refine va_gets (C := RX6) (n := "FIRST_NAME") (d := "[B") hx hb hZs hZ.2.2.2.2.2 hown (hts (.fieldLink RX6 58 "NeighborBook" "FIRST_NAME" "[B") (List.mem_of_getElem? (i := 29) rfl)) (fun _ h9 => h9) dX6_init_112 ?_
      refine hq_iconst hx hb dX6_init_115 (by decide) (by decide) (fun z72 ez72 => ?_)
      refine hq_iconst hx hb dX6_init_116 (by decide) (by decide) (fun z73 ez73 => ?_)
      refine hp_callv (va_runV (As := [.int z71, .ref tF, .int z72, .int z73]) (rest := []) ⟨hx, hb, hml, hown, hts⟩ (c_X0_keepS l dC dI dA κf B g t70 kt70 z71 tF z72 z73) (cwV 4 hts gX6_init_X0_keep rfl rfl rfl (by decide +kernel) ⟨Nat.le_of_ble_eq_true rfl, Nat.le_of_ble_eq_true rfl⟩) (hp_preK (q := (RX0, TX0, 2)) [.int z71, .ref tF, .int z72, .int z73] hK hN hZ.1 hZ.2.2.2.2 hT kt70 rfl rfl) rfl rfl hl.1 rfl (lv_room (Nat.le_of_ble_eq_true rfl)) dX6_init_117 ⟨(by show 61 + 4 + 0 ≤ 65; omega), (by show 7244 + 6 * 4 + 0 ≤ 7268; omega)⟩) hZ.2.2.2.2 (fun g9 H locs hp hJ => ?_)
      subst hp
      have hZ := (⟨hZ.1, hZ.2.1, hZ.2.2.1, Nat.le_trans hBz hJ.2.1, hJ⟩ : hp_Z dC dI dA κf B g s.heap H locs)
      refine lv_aload_n hx hb dX6_init_120 rfl (lv_at hl 0 rfl) ?_
      refine hp_getr (C := RX6) (T := TX6) (N := 12) (ci := 6) (kd := 1) hx hb hts iX6_init_X6 hown hK hZ.2.2.2.2 kf rfl rfl 2 (by decide) (hts (.fieldLink RX6 16 "NeighborBook" "told" "LNeighborBook$Contents;") (List.mem_of_getElem? (i := 9) rfl)) (fun _ h9 => h9) rfl dX6_init_121 (fun t74 kt74 => ?_)
      refine hq_iconst hx hb dX6_init_124 (by decide) (by decide) (fun z75 ez75 => ?_)
      refine va_gets (C := RX6) (n := "FIRST_NAME") (d := "[B") hx hb hZs hZ.2.2.2.2.2 hown (hts (.fieldLink RX6 58 "NeighborBook" "FIRST_NAME" "[B") (List.mem_of_getElem? (i := 29) rfl)) (fun _ h9 => h9) dX6_init_125 ?_
      refine hq_iconst hx hb dX6_init_128 (by decide) (by decide) (fun z76 ez76 => ?_)
      refine hq_iconst hx hb dX6_init_129 (by decide) (by decide) (fun z77 ez77 => ?_)
      refine hp_callv (va_runV (As := [.int z75, .ref tF, .int z76, .int z77]) (rest := []) ⟨hx, hb, hml, hown, hts⟩ (c_X0_keepS l dC dI dA κf B g t74 kt74 z75 tF z76 z77) (cwV 4 hts gX6_init_X0_keep rfl rfl rfl (by decide +kernel) ⟨Nat.le_of_ble_eq_true rfl, Nat.le_of_ble_eq_true rfl⟩) (hp_preK (q := (RX0, TX0, 2)) [.int z75, .ref tF, .int z76, .int z77] hK hN hZ.1 hZ.2.2.2.2 hT kt74 rfl rfl) rfl rfl hl.1 rfl (lv_room (Nat.le_of_ble_eq_true rfl)) dX6_init_130 ⟨(by show 61 + 4 + 0 ≤ 65; omega), (by show 7244 + 6 * 4 + 0 ≤ 7268; omega)⟩) hZ.2.2.2.2 (fun g9 H locs hp hJ => ?_)
      subst hp
      have hZ := (⟨hZ.1, hZ.2.1, hZ.2.2.1, Nat.le_trans hBz hJ.2.1, hJ⟩ : hp_Z dC dI dA κf B g s.heap H locs)
      refine W.cs (cells' := 65) (slots' := 7268) (by omega) (by omega) ?_
      exact hp_Uret hx hb hK hN hAO hlocks hZ hr ⟨kf, hDf⟩ dX6_init_133
    · refine lv_aload_n hx hb dX6_init_88 rfl (lv_at hl 0 rfl) ?_
      refine hp_getr (C := RX6) (T := TX6) (N := 12) (ci := 6) (kd := 110 + i) (k2 := 80 + i) hx hb hts iX6_init_X6 hown hK hZ.2.2.2.2 kh (hk_t110 hi) rfl 3 (by decide) (hts (.fieldLink RX6 22 "NeighborBook" "ports" "[LNeighborBook$Port;") (List.mem_of_getElem? (i := 11) rfl)) (fun _ h9 => h9) (hk_s110 i (by omega)) dX6_init_89 (fun b7 kb7 => ?_)
      have eb7 := hub b7 kb7
      subst eb7
      refine lv_iload_n hx hb dX6_init_92 rfl (lv_at hl 1 rfl) ?_
      have hi4 : i < 4 := by omega
      refine hp_newo (C := RX4) (T := TX4) (N := 6) (ci := 4) (kd := 5 + i) hx hb hts iX6_init_X4 tyX4 tyX4_ok hown (hts (.classLink RX6 20 RX4) (List.mem_of_getElem? (i := 10) rfl)) (hts (.instantiable RX4 6) (List.mem_of_getElem? (i := 27) rfl)) (hts (.initialized RX4) (List.mem_of_getElem? (i := 28) rfl)) hK hZ rfl (hk_t5 hi4) (by unfold hk_ok; omega) (fun _ k hk => by rw [hk_s5 hi4 hk, hgp (5 + i) k (by omega) (by omega)]; match k, hk with | 0, _ => exact ⟨0, rfl, rfl⟩ | 1, _ => exact ⟨0, rfl, rfl⟩ | 2, _ => exact ⟨0, rfl, rfl⟩ | 3, _ => exact ⟨0, rfl, rfl⟩ | 4, _ => exact ⟨0, rfl, rfl⟩ | 5, _ => exact ⟨0, rfl, rfl⟩) (fun _ a h9 => by
        by_cases ha : a = h0
        · rw [ha, kh] at h9; omega
        · by_cases hab : a = b7
          · rw [hab, kb] at h9; omega
          · exact (hl_e hi (by decide) (by decide) (hm a ha hab)).2.1 hi4 h9) (by show 61 + i + 1 ≤ 65; omega) (by show 7244 + 6 * i + 6 ≤ 7268; omega) dX6_init_93 (fun o8 H zo8 hZ => ?_)
      obtain ⟨κ8, e8⟩ : ∃ z, z = hp_kk κi o8 (5 + i) := ⟨_, rfl⟩
      rw [← e8] at hZ
      have ko8 : κ8 o8 = 5 + i := by rw [e8]; exact hp_kk_s _ _ _
      have kh8 : κ8 h0 = 110 + i := by rw [e8, hp_kk_n (ne_k kh zo8 (by omega))]; exact kh
      have kb8 : κ8 b7 = 80 + i := by rw [e8, hp_kk_n (ne_k kb zo8 (by omega))]; exact kb
      have hb7h : b7 ≠ h0 := fun e9 => by rw [e9, kh] at kb; omega
      refine lv_dup hx hb dX6_init_96 rfl ?_
      refine hp_callT (va_runIN (As := []) (rest := [.ref o8, .int v, .ref b7]) ⟨hx, hb, hml, hown, hts⟩ (c_X4_init l dC dI dA κ8 B g o8 (5 + i) ko8 (by omega)) ⟨va_cnB 0 hts gX6_init_X4_init_n57 rfl rfl rfl (hN _ (List.mem_of_getElem? (i := 3) rfl)) (hts (.initialized RX4) (List.mem_of_getElem? (i := 28) rfl)) (by decide +kernel) ⟨Nat.le_of_ble_eq_true rfl, Nat.le_of_ble_eq_true rfl⟩, rfl, (hts (.instanceMethod yX4_init) (List.mem_of_getElem? (i := 70) rfl))⟩ (hp_preT [.ref o8] hK hN hAO hZ) rfl rfl hl.1 rfl (lv_room (Nat.le_of_ble_eq_true rfl)) dX6_init_97 ⟨(by show 61 + i + 1 + 0 ≤ 65; omega), (by show 7244 + 6 * i + 6 + 0 ≤ 7268; omega)⟩) hZ (fun κ9 H locs hD9 hZ => ?_)
      have ko9 : κ9 o8 = 5 + i := hD9.1
      have kh9 : κ9 h0 = 110 + i := (hD9.2.1 h0 (by rw [kh8]; omega) (fun e9 => by rw [e9, ko8] at kh8; omega)).trans kh8
      have kb9 : κ9 b7 = 80 + i := (hD9.2.1 b7 (by rw [kb8]; omega) (fun e9 => by rw [e9, ko8] at kb8; omega)).trans kb8
      have hal9 : ∀ a, a ≠ h0 → a ≠ b7 → (hl_P [0, 3, 4, 10, 12, 16, 17] (κ9 a) ((κ9 a - 300) % 20 < 14) ∨ (5 ≤ κ9 a ∧ κ9 a < 5 + (i + 1))) := by
        intro a ha hab
        by_cases hao : a = o8
        · rw [hao, ko9]; exact Or.inr ⟨by omega, by omega⟩
        · by_cases hz8 : κ8 a = 0
          · have h3 : κ9 a = 0 := hD9.2.2 a hz8
            rw [h3]; exact Or.inl (Or.inl (by decide))
          · rw [hD9.2.1 a hz8 hao, e8, hp_kk_n hao]
            rcases hm a ha hab with h | h
            · exact Or.inl h
            · exact Or.inr ⟨by omega, by omega⟩
      have hub9 : ∀ a, κ9 a = 80 + i → a = b7 := fun a h => Classical.byContradiction fun hab => by
        by_cases ha : a = h0
        · rw [ha, kh9] at h; omega
        · exact (nn_w (hl_e (show i + 1 ≤ 4 by omega) (by decide) (by decide) (hal9 a ha hab)).2.2.1 hi).1 h
      refine hp_aasv 3 (q := (RX4, TX4, 6)) (n := 4) hx hb hK hZ.2.2.2.2 kb9 (hk_t80 hi) (by omega) (by omega) (by omega) hZ.1 ko9 (hk_t5 hi4) rfl rfl dX6_init_100 (fun F H locs hM hO hS => ?_)
      have hii : v.toInt.toNat = i := by omega
      rw [hii] at hM
      have ht81 : hk_t (81 + i) = (2, 3, 4) := by rw [show 81 + i = 80 + (i + 1) by omega]; exact hk_t80 (by omega)
      have ht111 : hk_t (111 + i) = (1, 6, 12) := by rw [show 111 + i = 110 + (i + 1) by omega]; exact hk_t110 (by omega)
      have hZ := hp_row (ka := 80 + i) (ka' := 81 + i) (kh := 110 + i) (kh' := 111 + i) (kn := 5 + i) (kf := 3) hZ.1 hZ.2.1 hZ.2.2.1 (Nat.le_trans hBz hS.1) hM hO hS kb9 kh9 ko9 (by rw [hk_t80 hi, ht81]) (by rw [hk_t110 hi, ht111]) (by unfold hk_ok; omega) (by unfold hk_ok; omega) (by rw [ht81]; simp) (by rw [ht111]; simp) (hk_xbig (by omega) (by omega)) (hk_xbig (by omega) (by omega)) (by omega) (by omega) (by omega)
        (fun j hj hl9 => hk_row80 i hi4 j (by rw [ht81] at hl9; exact hl9) hj) (hk_rowi80 i hi4) (fun j hj hl9 => hk_row110 i hi4 j (by rw [ht111] at hl9; exact hl9) hj) (hk_s110 i (by omega)) (by rw [show 111 + i = 110 + (i + 1) by omega, hk_s110 (i + 1) (by omega), show 80 + (i + 1) = 81 + i by omega]) (by rw [ht111]; decide) hub9 (fun a h => Classical.byContradiction fun ha => by
          by_cases hab : a = b7
          · rw [hab, kb9] at h; omega
          · exact (nn_w (hl_e (show i + 1 ≤ 4 by omega) (by decide) (by decide) (hal9 a ha hab)).2.2.1 hi).2 h)
        (fun a j hj ha h => by
          have h5 := nn_s8 (hZ.2.2.1 a) hj hi h
          by_cases hab : a = b7
          · rw [hab, kb9] at h5; omega
          · exact nn_x (hl_e (show i + 1 ≤ 4 by omega) (by decide) (by decide) (hal9 a ha hab)).2.2.1 h5)
        (fun a j hj => nn_t8 (hZ.2.2.1 a) hj hi)
      obtain ⟨κ10, e10⟩ : ∃ z, z = hp_kk (hp_kk κ9 b7 (81 + i)) h0 (111 + i) := ⟨_, rfl⟩
      rw [← e10] at hZ
      refine hq_iinc (k := 1) (lv' := fun (z9 : Int32) => [(1, .int z9), (0, .ref h0)]) hx hb dX6_init_101 hl rfl (by decide) (by decide) (by omega) (by omega) (by decide) (fun _ => rfl) (fun x9 ls ex9 hl => ?_)
      have hl : lv_has ls 2 [(1, .int x9), (0, .ref h0)] := hl
      refine lv_goto (tgt := 83) hx hb dX6_init_104 (by decide) ?_
      refine W.cs (cells' := 61 + (i + 1)) (slots' := 7244 + 6 * (i + 1)) (by omega) (by omega) ?_
      exact ih (i + 1) x9 κ10 _ _ ls (by omega) (by omega) (by omega) (by rw [e10, hp_kk_s]; omega) (by rw [e10, hp_kk_n hb7h, hp_kk_s]; omega) (fun a ha hab => by rw [e10, hp_kk_n ha, hp_kk_n hab]; exact hal9 a ha hab) hZ (lv_sub hl [1, 0] rfl)
set_option maxRecDepth 100000 in
set_option maxHeartbeats 4000000 in
theorem c_X6_init (l : Launch) (dC : Nat → ClassId) (dI : Nat → Nat → Nat) (dA : Nat → ClassId) (κ : Nat → Nat) (B : Nat) (g : Nat → Nat → Int) (h0 : Nat) (k0 : κ h0 = 100) (hz : ∀ a, a ≠ h0 → κ a = 0) (hg1 : ∀ k : Nat, g 1 k = 0) (hg4 : g 4 1 = 0) (hg42 : g 4 2 = -1) (hg10 : g 10 1 = 0) (hgp : ∀ a k : Nat, 5 ≤ a → a ≤ 8 → g a k = 0) (tF : Nat) : Met l yX6_init wsX6_init ({ frames := 5, cells := 65, slots := 7268, locals := 104 } : Room) (va_Pc [.ref h0] (fun U => hp_T dC dI dA κ B g U ∧ va_Z RX6 "FIRST_NAME" "[B" (.ref tF) (hp_A B) U U.heap ∧ va_T .byte tF 2 (fun _ => .int 0) (hp_A B) U U.heap)) (hp_QU dC dI dA B g (fun κ' => κ' h0 = 1 ∧ ∀ a, (κ' a ≤ 17 ∧ κ' a ≠ 11) ∨ (300 ≤ κ' a ∧ κ' a < 380 ∧ (κ' a < 312 ∨ 320 ≤ κ' a)))) 65 7268 (hp_A B) := by
  refine Met.ofW (cc := cX6_init) (maxL := 2) (ret := none) (by decide) rfl ?_
  intro p e s m args below meth c s₁ Bd hml hv
  obtain ⟨rfl, ⟨⟨hK, hN, hW, hF⟩, hV, hKk, hBz, hAO⟩, hZs, hT⟩ := hv
  have hx := Bd.exec
  have hb := Bd.bytes
  have hr := Bd.returns
  have hts := atoms_spec (ws := wsX6_init) Bd.pre
  have hown : s.vm.findClass RX6 = some m.cls := findClass_of_methodNamed Bd.named
  have hlocks := Bd.notSynchronized
  have hin : meth.name = "<init>" := (name_of_methodNamed Bd.named Bd.method).1
  have hZ : hp_Z dC dI dA κ B g s.heap s.heap [] := ⟨hW, hV, hKk, hBz, hF, va_S.rf⟩
  have hl := lv_entry ([Value.ref h0]) (n := 2) (Nat.le_of_ble_eq_true rfl)
  rw [lg_entry_eq]
  generalize (lg_sl ([Value.ref h0]) ++ List.replicate (2 - (lg_sl ([Value.ref h0])).length) Slot.unset).toArray = ls at hl ⊢
  have hl : lv_has ls 2 [(0, .ref h0)] := hl
  have hE : hp_EN (fun n => n = 0) κ κ h0 h0 := en_rf (show 0 = 0 from by omega)
  have h0n : κ h0 ≠ 0 := by rw [k0]; omega
  refine lv_aload_n hx hb dX6_init_0 rfl (lv_at hl 0 rfl) ?_
  refine W.objInit hx hb hown (hts (.methodLink RX6 1 objectInit) (List.mem_of_getElem? (i := 1) rfl)) (hts (.instanceMethod objectInit) (List.mem_of_getElem? (i := 2) rfl)) (hts (.code objectInit ⟨#[0xb1]⟩ 1 none) (List.mem_of_getElem? (i := 3) rfl)) rfl (by rw [hml]; exact hl.1) rfl dX6_init_1 (Nat.le_of_ble_eq_true rfl) (Nat.le_of_ble_eq_true rfl) ?_
  have hm : ∀ a, a ≠ h0 → hl_P [0] (κ a) (False) := fun a ha => Or.inl (by rw [hz a ha]; decide)
  refine lv_aload_n hx hb dX6_init_4 rfl (lv_at hl 0 rfl) ?_
  refine hq_sipush hx hb dX6_init_5 (by decide) (fun z1 ez1 => ?_)
  refine hp_newi (atype := .byte) (ty := 1) (N := 700) (kd := 12) hx hb (hts (.arrayClass .byte) (List.mem_of_getElem? (i := 4) rfl)) hK hZ (hK.2 1 _ rfl).2 rfl (by unfold hk_ok; omega) (fun _ k _ => ⟨0, rfl, by decide, by decide⟩) (fun _ a h9 => by by_cases ha : a = h0; (rw [ha, k0] at h9; omega); (exact hl_ne (hm a ha) (by decide) (by decide) h9)) (by omega) (by show 700 * 1 ≤ 536870912; omega) (by show 0 + 1 ≤ 65; omega) (by show 0 + 700 ≤ 7268; omega) dX6_init_8 (fun b2 H zb2 hZ => ?_)
  refine W.cs (cells' := 1) (slots' := 700) (by omega) (by omega) ?_
  obtain ⟨κ3, eκ3⟩ : ∃ z, z = hp_kk κ b2 (12) := ⟨_, rfl⟩
  rw [← eκ3] at hZ
  have k4 : κ3 h0 = 100 := by rw [eκ3, hp_kk_n (ne_k k0 zb2 (by omega))]; exact k0
  have k5 : κ3 b2 = 12 := by rw [eκ3]; exact hp_kk_s _ _ _
  have hm : ∀ a, a ≠ h0 → hl_P [0, 12] (κ3 a) (False) := by
    intro a ha
    by_cases hab : a = b2
    · rw [hab, k5]; exact Or.inl (by decide)
    · rw [eκ3, hp_kk_n hab]; exact (hm a ha).mono (by decide) id
  refine hp_putF (C := RX6) (T := TX6) (N := 12) (ci := 6) (kd := 100) hx hb hts iX6_init_X6 hown hK hZ.2.2.2.2 k4 (rfl : hk_t 100 = (1, 6, 12)) rfl 0 (by decide) (hts (.fieldLink RX6 9 "NeighborBook" "typed" "[B") (List.mem_of_getElem? (i := 5) rfl)) (fun _ h9 => h9) tyX6 tyX6_ok nmX6 (v := .ref b2) rfl rfl (by omega) hZ.1 rfl hin rfl dX6_init_10 (fun F H locs hM hO hS => ?_)
  have hZ := hp_step (k1 := 100) (k2 := 101) hZ.1 hZ.2.1 hZ.2.2.1 (Nat.le_trans hBz hS.1) hM hO hS k4 ((rfl : hk_t 101 = (1, 6, 12)).trans (rfl : hk_t 100 = (1, 6, 12)).symm) (by unfold hk_ok; omega) (by rw [(rfl : hk_t 101 = (1, 6, 12))]; decide) (fun a j hj _ h => by have := hk_sr (hZ.2.2.1 a) h hj; omega) (fun j hj h => by have := hk_sr (kd := 101) (by unfold hk_ok; omega) h hj; omega) ⟨b2, rfl, k5⟩ (fun j hj hl w hw => by
        have hl : j < 12 := by rw [(rfl : hk_t 100 = (1, 6, 12))] at hl; exact hl
        match j, hj, hl, hw with
        | 1, _, _, hw => exact hw
        | 2, _, _, hw => exact hw
        | 3, _, _, hw => exact hw
        | 4, _, _, hw => exact hw
        | 5, _, _, hw => exact hw
        | 6, _, _, hw => exact hw
        | 7, _, _, hw => exact hw
        | 8, _, _, hw => exact hw
        | 9, _, _, hw => exact hw
        | 10, _, _, hw => exact hw
        | 11, _, _, hw => exact hw
        | 0, hj, _, _ => exact absurd rfl hj) (fun h => absurd h (by decide))
  obtain ⟨κ6, eκ6⟩ : ∃ z, z = hp_kk κ3 h0 (101) := ⟨_, rfl⟩
  rw [← eκ6] at hZ
  have k7 : κ6 b2 = 12 := by rw [eκ6, hp_kk_n (fun h9 => by rw [h9, k4] at k5; omega)]; exact k5
  have k8 : κ6 h0 = 101 := by rw [eκ6]; exact hp_kk_s _ _ _
  have hm : ∀ a, a ≠ h0 → hl_P [0, 12] (κ6 a) (False) := fun a ha => by rw [eκ6, hp_kk_n ha]; exact hm a ha
  refine lv_aload_n hx hb dX6_init_13 rfl (lv_at hl 0 rfl) ?_
  refine hp_newo (C := RX0) (T := TX0) (N := 2) (ci := 0) (kd := 31) hx hb hts iX6_init_X0 tyX0 tyX0_ok hown (hts (.classLink RX6 13 RX0) (List.mem_of_getElem? (i := 6) rfl)) (hts (.instantiable RX0 2) (List.mem_of_getElem? (i := 7) rfl)) (hts (.initialized RX0) (List.mem_of_getElem? (i := 8) rfl)) hK hZ rfl rfl (by unfold hk_ok; omega) (fun _ k hk => by match k, hk with | 0, _ => exact trivial | 1, _ => exact trivial) (fun h => absurd h (by decide)) (by show 1 + 1 ≤ 65; omega) (by show 700 + 2 ≤ 7268; omega) dX6_init_14 (fun b9 H zb9 hZ => ?_)
  refine W.cs (cells' := 2) (slots' := 702) (by omega) (by omega) ?_
  obtain ⟨κ10, eκ10⟩ : ∃ z, z = hp_kk κ6 b9 (31) := ⟨_, rfl⟩
  rw [← eκ10] at hZ
  have k11 : κ10 h0 = 101 := by rw [eκ10, hp_kk_n (ne_k k8 zb9 (by omega))]; exact k8
  have k12 : κ10 b9 = 31 := by rw [eκ10]; exact hp_kk_s _ _ _
  have hm : ∀ a, a ≠ h0 → a ≠ b9 → hl_P [0, 12] (κ10 a) (False) := by
    intro a ha hab
    rw [eκ10, hp_kk_n hab]; exact hm a ha
  refine lv_dup hx hb dX6_init_17 rfl ?_
  refine hp_callT (va_runI (As := []) (rest := [.ref b9, .ref h0]) ⟨hx, hb, hml, hown, hts⟩ (c_X0_init l dC dI dA κ10 B g b9 k12 13 (by omega) (fun a => by by_cases ha : a = h0; (rw [ha, k11]; omega); (by_cases hab : a = b9; (rw [hab, k12]; omega); (exact ⟨fun h9 => (hl_col (hm a ha hab) (by decide) (by omega)).elim, fun h9 => (hl_col (hm a ha hab) (by decide) (by omega)).elim⟩)))) (cwI 0 hts gX6_init_X0_init rfl rfl rfl (hts (.initialized RX0) (List.mem_of_getElem? (i := 8) rfl)) (hts (.methodLink RX6 15 yX0_init) (List.mem_of_getElem? (i := 30) rfl)) (hts (.instanceMethod yX0_init) (List.mem_of_getElem? (i := 31) rfl)) rfl (by decide +kernel) ⟨Nat.le_of_ble_eq_true rfl, Nat.le_of_ble_eq_true rfl⟩) (hp_preT [.ref b9] hK hN hAO hZ) rfl rfl hl.1 rfl (lv_room (Nat.le_of_ble_eq_true rfl)) dX6_init_18 ⟨(by show 2 + 2 ≤ 65; omega), (by show 702 + 429 ≤ 7268; omega)⟩) hZ (fun κ13 H locs hDκ13 hZ => ?_)
  refine W.cs (cells' := 4) (slots' := 1131) (by omega) (by omega) ?_
  have k14 : κ13 h0 = 101 := (hDκ13.2.1 h0 (by rw [k11]; omega) (fun h9 => by rw [h9, k12] at k11; omega)).trans k11
  have k15 : κ13 b9 = 333 := hDκ13.1
  have hm : ∀ a, a ≠ h0 → hl_P [0, 12] (κ13 a) ((κ13 a - 300) % 20 = 13) := by
    intro a ha
    by_cases hab : a = b9
    · rw [hab, hDκ13.1]; exact Or.inr (by omega)
    · by_cases hz9 : κ10 a = 0
      · have h3 : (κ13 a) = 0 ∨ (κ13 a) = 340 + 13 ∨ (κ13 a) = 360 + 13 := hDκ13.2.2 a hz9
        by_cases h8 : 300 ≤ κ13 a
        · exact Or.inr (by omega)
        · refine Or.inl ?_
          rcases (show κ13 a = 0 by omega) with h7 <;> rw [h7] <;> decide
      · rw [hDκ13.2.1 a hz9 hab]; exact (hm a ha hab).mono (by decide) (fun h8 => h8.elim)
  refine hp_putF (C := RX6) (T := TX6) (N := 12) (ci := 6) (kd := 101) hx hb hts iX6_init_X6 hown hK hZ.2.2.2.2 k14 (rfl : hk_t 101 = (1, 6, 12)) rfl 2 (by decide) (hts (.fieldLink RX6 16 "NeighborBook" "told" "LNeighborBook$Contents;") (List.mem_of_getElem? (i := 9) rfl)) (fun _ h9 => h9) tyX6 tyX6_ok nmX6 (v := .ref b9) rfl rfl (by omega) hZ.1 rfl hin rfl dX6_init_21 (fun F H locs hM hO hS => ?_)
  have hZ := hp_step (k1 := 101) (k2 := 102) hZ.1 hZ.2.1 hZ.2.2.1 (Nat.le_trans hBz hS.1) hM hO hS k14 ((rfl : hk_t 102 = (1, 6, 12)).trans (rfl : hk_t 101 = (1, 6, 12)).symm) (by unfold hk_ok; omega) (by rw [(rfl : hk_t 102 = (1, 6, 12))]; decide) (fun a j hj _ h => by have := hk_sr (hZ.2.2.1 a) h hj; omega) (fun j hj h => by have := hk_sr (kd := 102) (by unfold hk_ok; omega) h hj; omega) ⟨b9, rfl, k15⟩ (fun j hj hl w hw => by
        have hl : j < 12 := by rw [(rfl : hk_t 101 = (1, 6, 12))] at hl; exact hl
        match j, hj, hl, hw with
        | 0, _, _, hw => exact hw
        | 1, _, _, hw => exact hw
        | 3, _, _, hw => exact hw
        | 4, _, _, hw => exact hw
        | 5, _, _, hw => exact hw
        | 6, _, _, hw => exact hw
        | 7, _, _, hw => exact hw
        | 8, _, _, hw => exact hw
        | 9, _, _, hw => exact hw
        | 10, _, _, hw => exact hw
        | 11, _, _, hw => exact hw
        | 2, hj, _, _ => exact absurd rfl hj) (fun h => absurd h (by decide))
  obtain ⟨κ16, eκ16⟩ : ∃ z, z = hp_kk κ13 h0 (102) := ⟨_, rfl⟩
  rw [← eκ16] at hZ
  have k17 : κ16 b9 = 333 := by rw [eκ16, hp_kk_n (fun h9 => by rw [h9, k14] at k15; omega)]; exact k15
  have k18 : κ16 h0 = 102 := by rw [eκ16]; exact hp_kk_s _ _ _
  have hm : ∀ a, a ≠ h0 → hl_P [0, 12] (κ16 a) ((κ16 a - 300) % 20 = 13) := fun a ha => by rw [eκ16, hp_kk_n ha]; exact hm a ha
  refine lv_aload_n hx hb dX6_init_24 rfl (lv_at hl 0 rfl) ?_
  refine hq_iconst hx hb dX6_init_25 (by decide) (by decide) (fun z19 ez19 => ?_)
  refine hp_newr (C := RX4) (ty := 3) (N := 4) (kd := 80) hx hb hown (hts (.classLink RX6 20 RX4) (List.mem_of_getElem? (i := 10) rfl)) hAO.1 hZ (show s.vm.findClass ("[" ++ (FieldType.object RX4).toString) = some (dA 3) from (by obtain ⟨kA, comp, q1, q2, q3, q4⟩ := (hK.2 3 _ rfl).2; exact q4)) rfl (by unfold hk_ok; omega) (fun _ k _ => trivial) (fun h => absurd h (by decide)) (by omega) (by omega) (by show 4 + 1 ≤ 65; omega) (by show 1131 + 4 ≤ 7268; omega) dX6_init_26 (fun b20 H zb20 hZ => ?_)
  refine W.cs (cells' := 5) (slots' := 1135) (by omega) (by omega) ?_
  obtain ⟨κ21, eκ21⟩ : ∃ z, z = hp_kk κ16 b20 (80) := ⟨_, rfl⟩
  rw [← eκ21] at hZ
  have k22 : κ21 h0 = 102 := by rw [eκ21, hp_kk_n (ne_k k18 zb20 (by omega))]; exact k18
  have k23 : κ21 b20 = 80 := by rw [eκ21]; exact hp_kk_s _ _ _
  have hup : ∀ a, κ21 a = 80 → a = b20 := fun a h => Classical.byContradiction fun hab => by
    by_cases ha : a = h0
    · rw [ha, k22] at h; omega
    · rw [eκ21, hp_kk_n hab] at h; exact hl_ne (hm a ha) (by decide) (by decide) h
  have hm : ∀ a, a ≠ h0 → hl_P [0, 12, 80] (κ21 a) ((κ21 a - 300) % 20 = 13) := by
    intro a ha
    by_cases hab : a = b20
    · rw [hab, k23]; exact Or.inl (by decide)
    · rw [eκ21, hp_kk_n hab]; exact (hm a ha).mono (by decide) id
  refine hp_putF (C := RX6) (T := TX6) (N := 12) (ci := 6) (kd := 102) hx hb hts iX6_init_X6 hown hK hZ.2.2.2.2 k22 (rfl : hk_t 102 = (1, 6, 12)) rfl 3 (by decide) (hts (.fieldLink RX6 22 "NeighborBook" "ports" "[LNeighborBook$Port;") (List.mem_of_getElem? (i := 11) rfl)) (fun _ h9 => h9) tyX6 tyX6_ok nmX6 (v := .ref b20) rfl rfl (by omega) hZ.1 rfl hin rfl dX6_init_29 (fun F H locs hM hO hS => ?_)
  have hZ := hp_step (k1 := 102) (k2 := 103) hZ.1 hZ.2.1 hZ.2.2.1 (Nat.le_trans hBz hS.1) hM hO hS k22 ((rfl : hk_t 103 = (1, 6, 12)).trans (rfl : hk_t 102 = (1, 6, 12)).symm) (by unfold hk_ok; omega) (by rw [(rfl : hk_t 103 = (1, 6, 12))]; decide) (fun a j hj _ h => by have := hk_sr (hZ.2.2.1 a) h hj; omega) (fun j hj h => by have := hk_sr (kd := 103) (by unfold hk_ok; omega) h hj; omega) ⟨b20, rfl, k23⟩ (fun j hj hl w hw => by
        have hl : j < 12 := by rw [(rfl : hk_t 102 = (1, 6, 12))] at hl; exact hl
        match j, hj, hl, hw with
        | 0, _, _, hw => exact hw
        | 1, _, _, hw => exact hw
        | 2, _, _, hw => exact hw
        | 4, _, _, hw => exact hw
        | 5, _, _, hw => exact hw
        | 6, _, _, hw => exact hw
        | 7, _, _, hw => exact hw
        | 8, _, _, hw => exact hw
        | 9, _, _, hw => exact hw
        | 10, _, _, hw => exact hw
        | 11, _, _, hw => exact hw
        | 3, hj, _, _ => exact absurd rfl hj) (fun h => absurd h (by decide))
  obtain ⟨κ24, eκ24⟩ : ∃ z, z = hp_kk κ21 h0 (103) := ⟨_, rfl⟩
  rw [← eκ24] at hZ
  have k25 : κ24 b20 = 80 := by rw [eκ24, hp_kk_n (fun h9 => by rw [h9, k22] at k23; omega)]; exact k23
  have k26 : κ24 h0 = 103 := by rw [eκ24]; exact hp_kk_s _ _ _
  have hm : ∀ a, a ≠ h0 → hl_P [0, 12, 80] (κ24 a) ((κ24 a - 300) % 20 = 13) := fun a ha => by rw [eκ24, hp_kk_n ha]; exact hm a ha
  have hup : ∀ a, κ24 a = 80 → a = b20 := fun a h => hup a (by by_cases ha : a = h0; (rw [ha, k26] at h; omega); (rw [eκ24, hp_kk_n ha] at h; exact h))
  refine lv_aload_n hx hb dX6_init_32 rfl (lv_at hl 0 rfl) ?_
  refine hp_newo (C := RX3) (T := TX3) (N := 2) (ci := 3) (kd := 37) hx hb hts iX6_init_X3 tyX3 tyX3_ok hown (hts (.classLink RX6 26 RX3) (List.mem_of_getElem? (i := 12) rfl)) (hts (.instantiable RX3 2) (List.mem_of_getElem? (i := 13) rfl)) (hts (.initialized RX3) (List.mem_of_getElem? (i := 14) rfl)) hK hZ rfl rfl (by unfold hk_ok; omega) (fun _ k hk => by match k, hk with | 0, _ => exact trivial | 1, _ => exact ⟨0, rfl, by decide, by decide⟩) (fun h => absurd h (by decide)) (by show 5 + 1 ≤ 65; omega) (by show 1135 + 2 ≤ 7268; omega) dX6_init_33 (fun b27 H zb27 hZ => ?_)
  refine W.cs (cells' := 6) (slots' := 1137) (by omega) (by omega) ?_
  obtain ⟨κ28, eκ28⟩ : ∃ z, z = hp_kk κ24 b27 (37) := ⟨_, rfl⟩
  rw [← eκ28] at hZ
  have k29 : κ28 h0 = 103 := by rw [eκ28, hp_kk_n (ne_k k26 zb27 (by omega))]; exact k26
  have k30 : κ28 b20 = 80 := by rw [eκ28, hp_kk_n (ne_k k25 zb27 (by omega))]; exact k25
  have k31 : κ28 b27 = 37 := by rw [eκ28]; exact hp_kk_s _ _ _
  have hup : ∀ a, κ28 a = 80 → a = b20 := fun a h => hup a (by by_cases ha : a = b27; (rw [ha, k31] at h; omega); (rw [eκ28, hp_kk_n ha] at h; exact h))
  have hm : ∀ a, a ≠ h0 → a ≠ b27 → hl_P [0, 12, 80] (κ28 a) ((κ28 a - 300) % 20 = 13) := by
    intro a ha hab
    rw [eκ28, hp_kk_n hab]; exact hm a ha
  refine lv_dup hx hb dX6_init_36 rfl ?_
  refine hp_callT (va_runI (As := []) (rest := [.ref b27, .ref h0]) ⟨hx, hb, hml, hown, hts⟩ (c_X3_init l dC dI dA κ28 B g b27 k31 hg10 (fun a h9 => by by_cases ha : a = h0; (rw [ha, k29] at h9; omega); (by_cases hab : a = b27; (rw [hab, k31] at h9; omega); (exact hl_ne (hm a ha hab) (by decide) (by decide) h9))) (fun a h9 => by by_cases ha : a = h0; (rw [ha, k29] at h9; omega); (by_cases hab : a = b27; (rw [hab, k31] at h9; omega); (exact hl_ne (hm a ha hab) (by decide) (by decide) h9))) (fun a hab => by by_cases ha : a = h0; (rw [ha, k29]; omega); (exact hl_48 (hm a ha hab) (by decide))) (fun a h9 => by by_cases ha : a = h0; (rw [ha, k29] at h9; omega); (by_cases hab : a = b27; (rw [hab, k31] at h9; omega); (have h8 := hl_col (hm a ha hab) (by decide) h9; omega)))) (cwI 0 hts gX6_init_X3_init rfl rfl rfl (hts (.initialized RX3) (List.mem_of_getElem? (i := 14) rfl)) (hts (.methodLink RX6 28 yX3_init) (List.mem_of_getElem? (i := 45) rfl)) (hts (.instanceMethod yX3_init) (List.mem_of_getElem? (i := 46) rfl)) rfl (by decide +kernel) ⟨Nat.le_of_ble_eq_true rfl, Nat.le_of_ble_eq_true rfl⟩) (hp_preT [.ref b27] hK hN hAO hZ) rfl rfl hl.1 rfl (lv_room (Nat.le_of_ble_eq_true rfl)) dX6_init_37 ⟨(by show 6 + 49 ≤ 65; omega), (by show 1137 + 5232 ≤ 7268; omega)⟩) hZ (fun κ32 H locs hDκ32 hZ => ?_)
  refine W.cs (cells' := 55) (slots' := 6369) (by omega) (by omega) ?_
  have k33 : κ32 h0 = 103 := (hDκ32.2.1 h0 (by rw [k29]; omega) (fun h9 => by rw [h9, k31] at k29; omega)).trans k29
  have k34 : κ32 b20 = 80 := (hDκ32.2.1 b20 (by rw [k30]; omega) (fun h9 => by rw [h9, k31] at k30; omega)).trans k30
  have k35 : κ32 b27 = 10 := hDκ32.1
  have hup : ∀ a, κ32 a = 80 → a = b20 := fun a h => by
    by_cases hab : a = b27
    · rw [hab, k35] at h; omega
    · by_cases hz9 : κ28 a = 0
      · have h3 : (κ32 a) = 0 ∨ (κ32 a) = 16 ∨ (300 ≤ (κ32 a) ∧ (κ32 a) < 380 ∧ ((κ32 a) < 312 ∨ 320 ≤ (κ32 a)) ∧ ((κ32 a) - 300) % 20 < 12) := hDκ32.2.2 a hz9; omega
      · exact hup a (by rw [← hDκ32.2.1 a hz9 hab]; exact h)
  have hm : ∀ a, a ≠ h0 → hl_P [0, 10, 12, 16, 80] (κ32 a) ((κ32 a - 300) % 20 < 12 ∨ (κ32 a - 300) % 20 = 13) := by
    intro a ha
    by_cases hab : a = b27
    · rw [hab, hDκ32.1]; exact Or.inl (by decide)
    · by_cases hz9 : κ28 a = 0
      · have h3 : (κ32 a) = 0 ∨ (κ32 a) = 16 ∨ (300 ≤ (κ32 a) ∧ (κ32 a) < 380 ∧ ((κ32 a) < 312 ∨ 320 ≤ (κ32 a)) ∧ ((κ32 a) - 300) % 20 < 12) := hDκ32.2.2 a hz9
        by_cases h8 : 300 ≤ κ32 a
        · exact Or.inr (by omega)
        · refine Or.inl ?_
          rcases (show κ32 a = 0 ∨ κ32 a = 16 by omega) with h7 | h7 <;> rw [h7] <;> decide
      · rw [hDκ32.2.1 a hz9 hab]; exact (hm a ha hab).mono (by decide) (fun h8 => by omega)
  refine hp_putF (C := RX6) (T := TX6) (N := 12) (ci := 6) (kd := 103) hx hb hts iX6_init_X6 hown hK hZ.2.2.2.2 k33 (rfl : hk_t 103 = (1, 6, 12)) rfl 4 (by decide) (hts (.fieldLink RX6 29 "NeighborBook" "known" "LNeighborBook$Neighbors;") (List.mem_of_getElem? (i := 15) rfl)) (fun _ h9 => h9) tyX6 tyX6_ok nmX6 (v := .ref b27) rfl rfl (by omega) hZ.1 rfl hin rfl dX6_init_40 (fun F H locs hM hO hS => ?_)
  have hZ := hp_step (k1 := 103) (k2 := 104) hZ.1 hZ.2.1 hZ.2.2.1 (Nat.le_trans hBz hS.1) hM hO hS k33 ((rfl : hk_t 104 = (1, 6, 12)).trans (rfl : hk_t 103 = (1, 6, 12)).symm) (by unfold hk_ok; omega) (by rw [(rfl : hk_t 104 = (1, 6, 12))]; decide) (fun a j hj _ h => by have := hk_sr (hZ.2.2.1 a) h hj; omega) (fun j hj h => by have := hk_sr (kd := 104) (by unfold hk_ok; omega) h hj; omega) ⟨b27, rfl, k35⟩ (fun j hj hl w hw => by
        have hl : j < 12 := by rw [(rfl : hk_t 103 = (1, 6, 12))] at hl; exact hl
        match j, hj, hl, hw with
        | 0, _, _, hw => exact hw
        | 1, _, _, hw => exact hw
        | 2, _, _, hw => exact hw
        | 3, _, _, hw => exact hw
        | 5, _, _, hw => exact hw
        | 6, _, _, hw => exact hw
        | 7, _, _, hw => exact hw
        | 8, _, _, hw => exact hw
        | 9, _, _, hw => exact hw
        | 10, _, _, hw => exact hw
        | 11, _, _, hw => exact hw
        | 4, hj, _, _ => exact absurd rfl hj) (fun h => absurd h (by decide))
  obtain ⟨κ36, eκ36⟩ : ∃ z, z = hp_kk κ32 h0 (104) := ⟨_, rfl⟩
  rw [← eκ36] at hZ
  have k37 : κ36 b20 = 80 := by rw [eκ36, hp_kk_n (fun h9 => by rw [h9, k33] at k34; omega)]; exact k34
  have k38 : κ36 b27 = 10 := by rw [eκ36, hp_kk_n (fun h9 => by rw [h9, k33] at k35; omega)]; exact k35
  have k39 : κ36 h0 = 104 := by rw [eκ36]; exact hp_kk_s _ _ _
  have hm : ∀ a, a ≠ h0 → hl_P [0, 10, 12, 16, 80] (κ36 a) ((κ36 a - 300) % 20 < 12 ∨ (κ36 a - 300) % 20 = 13) := fun a ha => by rw [eκ36, hp_kk_n ha]; exact hm a ha
  have hup : ∀ a, κ36 a = 80 → a = b20 := fun a h => hup a (by by_cases ha : a = h0; (rw [ha, k39] at h; omega); (rw [eκ36, hp_kk_n ha] at h; exact h))
  refine lv_aload_n hx hb dX6_init_43 rfl (lv_at hl 0 rfl) ?_
  refine hp_newo (C := RX1) (T := TX1) (N := 2) (ci := 1) (kd := 33) hx hb hts iX6_init_X1 tyX1 tyX1_ok hown (hts (.classLink RX6 33 RX1) (List.mem_of_getElem? (i := 16) rfl)) (hts (.instantiable RX1 2) (List.mem_of_getElem? (i := 17) rfl)) (hts (.initialized RX1) (List.mem_of_getElem? (i := 18) rfl)) hK hZ rfl rfl (by unfold hk_ok; omega) (fun _ k hk => by match k, hk with | 0, _ => exact trivial | 1, _ => exact ⟨0, rfl, by decide, by decide⟩) (fun h => absurd h (by decide)) (by show 55 + 1 ≤ 65; omega) (by show 6369 + 2 ≤ 7268; omega) dX6_init_44 (fun b40 H zb40 hZ => ?_)
  refine W.cs (cells' := 56) (slots' := 6371) (by omega) (by omega) ?_
  obtain ⟨κ41, eκ41⟩ : ∃ z, z = hp_kk κ36 b40 (33) := ⟨_, rfl⟩
  rw [← eκ41] at hZ
  have k42 : κ41 h0 = 104 := by rw [eκ41, hp_kk_n (ne_k k39 zb40 (by omega))]; exact k39
  have k43 : κ41 b20 = 80 := by rw [eκ41, hp_kk_n (ne_k k37 zb40 (by omega))]; exact k37
  have k44 : κ41 b40 = 33 := by rw [eκ41]; exact hp_kk_s _ _ _
  have hup : ∀ a, κ41 a = 80 → a = b20 := fun a h => hup a (by by_cases ha : a = b40; (rw [ha, k44] at h; omega); (rw [eκ41, hp_kk_n ha] at h; exact h))
  have hm : ∀ a, a ≠ h0 → a ≠ b40 → hl_P [0, 10, 12, 16, 80] (κ41 a) ((κ41 a - 300) % 20 < 12 ∨ (κ41 a - 300) % 20 = 13) := by
    intro a ha hab
    rw [eκ41, hp_kk_n hab]; exact hm a ha
  refine lv_dup hx hb dX6_init_47 rfl ?_
  refine hp_callT (va_runIN (As := []) (rest := [.ref b40, .ref h0]) ⟨hx, hb, hml, hown, hts⟩ (c_X1_init l dC dI dA κ41 B g b40 k44 (fun a => by by_cases ha : a = h0; (rw [ha, k42]; omega); (by_cases hab : a = b40; (rw [hab, k44]; omega); (have h7 := hl_ne (c := 3) (hm a ha hab) (by decide) (by decide); have h8 := hl_col (hm a ha hab) (by decide); omega)))) ⟨va_cnB 0 hts gX6_init_X1_init_n35 rfl rfl rfl (hN _ (List.mem_of_getElem? (i := 1) rfl)) (hts (.initialized RX1) (List.mem_of_getElem? (i := 18) rfl)) (by decide +kernel) ⟨Nat.le_of_ble_eq_true rfl, Nat.le_of_ble_eq_true rfl⟩, rfl, (hts (.instanceMethod yX1_init) (List.mem_of_getElem? (i := 59) rfl))⟩ (hp_preT [.ref b40] hK hN hAO hZ) rfl rfl hl.1 rfl (lv_room (Nat.le_of_ble_eq_true rfl)) dX6_init_48 ⟨(by show 56 + 3 ≤ 65; omega), (by show 6371 + 431 ≤ 7268; omega)⟩) hZ (fun κ45 H locs hDκ45 hZ => ?_)
  refine W.cs (cells' := 59) (slots' := 6802) (by omega) (by omega) ?_
  have k46 : κ45 h0 = 104 := (hDκ45.2.1 h0 (by rw [k42]; omega) (fun h9 => by rw [h9, k44] at k42; omega)).trans k42
  have k47 : κ45 b20 = 80 := (hDκ45.2.1 b20 (by rw [k43]; omega) (fun h9 => by rw [h9, k44] at k43; omega)).trans k43
  have k48 : κ45 b40 = 3 := hDκ45.1
  have hup : ∀ a, κ45 a = 80 → a = b20 := fun a h => by
    by_cases hab : a = b40
    · rw [hab, k48] at h; omega
    · by_cases hz9 : κ41 a = 0
      · have h3 : (κ45 a) = 0 ∨ (κ45 a) = 320 + 12 ∨ (κ45 a) = 340 + 12 ∨ (κ45 a) = 360 + 12 := hDκ45.2.2 a hz9; omega
      · exact hup a (by rw [← hDκ45.2.1 a hz9 hab]; exact h)
  have hm : ∀ a, a ≠ h0 → hl_P [0, 3, 10, 12, 16, 80] (κ45 a) ((κ45 a - 300) % 20 < 14) := by
    intro a ha
    by_cases hab : a = b40
    · rw [hab, hDκ45.1]; exact Or.inl (by decide)
    · by_cases hz9 : κ41 a = 0
      · have h3 : (κ45 a) = 0 ∨ (κ45 a) = 320 + 12 ∨ (κ45 a) = 340 + 12 ∨ (κ45 a) = 360 + 12 := hDκ45.2.2 a hz9
        by_cases h8 : 300 ≤ κ45 a
        · exact Or.inr (by omega)
        · refine Or.inl ?_
          rcases (show κ45 a = 0 by omega) with h7 <;> rw [h7] <;> decide
      · rw [hDκ45.2.1 a hz9 hab]; exact (hm a ha hab).mono (by decide) (fun h8 => by omega)
  refine hp_putF (C := RX6) (T := TX6) (N := 12) (ci := 6) (kd := 104) hx hb hts iX6_init_X6 hown hK hZ.2.2.2.2 k46 (rfl : hk_t 104 = (1, 6, 12)) rfl 5 (by decide) (hts (.fieldLink RX6 36 "NeighborBook" "reader" "LNeighborBook$FrameReader;") (List.mem_of_getElem? (i := 19) rfl)) (fun _ h9 => h9) tyX6 tyX6_ok nmX6 (v := .ref b40) rfl rfl (by omega) hZ.1 rfl hin rfl dX6_init_51 (fun F H locs hM hO hS => ?_)
  have hZ := hp_step (k1 := 104) (k2 := 105) hZ.1 hZ.2.1 hZ.2.2.1 (Nat.le_trans hBz hS.1) hM hO hS k46 ((rfl : hk_t 105 = (1, 6, 12)).trans (rfl : hk_t 104 = (1, 6, 12)).symm) (by unfold hk_ok; omega) (by rw [(rfl : hk_t 105 = (1, 6, 12))]; decide) (fun a j hj _ h => by have := hk_sr (hZ.2.2.1 a) h hj; omega) (fun j hj h => by have := hk_sr (kd := 105) (by unfold hk_ok; omega) h hj; omega) ⟨b40, rfl, k48⟩ (fun j hj hl w hw => by
        have hl : j < 12 := by rw [(rfl : hk_t 104 = (1, 6, 12))] at hl; exact hl
        match j, hj, hl, hw with
        | 0, _, _, hw => exact hw
        | 1, _, _, hw => exact hw
        | 2, _, _, hw => exact hw
        | 3, _, _, hw => exact hw
        | 4, _, _, hw => exact hw
        | 6, _, _, hw => exact hw
        | 7, _, _, hw => exact hw
        | 8, _, _, hw => exact hw
        | 9, _, _, hw => exact hw
        | 10, _, _, hw => exact hw
        | 11, _, _, hw => exact hw
        | 5, hj, _, _ => exact absurd rfl hj) (fun h => absurd h (by decide))
  obtain ⟨κ49, eκ49⟩ : ∃ z, z = hp_kk κ45 h0 (105) := ⟨_, rfl⟩
  rw [← eκ49] at hZ
  have k50 : κ49 b20 = 80 := by rw [eκ49, hp_kk_n (fun h9 => by rw [h9, k46] at k47; omega)]; exact k47
  have k51 : κ49 b40 = 3 := by rw [eκ49, hp_kk_n (fun h9 => by rw [h9, k46] at k48; omega)]; exact k48
  have k52 : κ49 h0 = 105 := by rw [eκ49]; exact hp_kk_s _ _ _
  have hm : ∀ a, a ≠ h0 → hl_P [0, 3, 10, 12, 16, 80] (κ49 a) ((κ49 a - 300) % 20 < 14) := fun a ha => by rw [eκ49, hp_kk_n ha]; exact hm a ha
  have hup : ∀ a, κ49 a = 80 → a = b20 := fun a h => hup a (by by_cases ha : a = h0; (rw [ha, k52] at h; omega); (rw [eκ49, hp_kk_n ha] at h; exact h))
  refine lv_aload_n hx hb dX6_init_54 rfl (lv_at hl 0 rfl) ?_
  refine hp_newo (C := RX5) (T := TX5) (N := 3) (ci := 5) (kd := 34) hx hb hts iX6_init_X5 tyX5 tyX5_ok hown (hts (.classLink RX6 40 RX5) (List.mem_of_getElem? (i := 20) rfl)) (hts (.instantiable RX5 3) (List.mem_of_getElem? (i := 21) rfl)) (hts (.initialized RX5) (List.mem_of_getElem? (i := 22) rfl)) hK hZ rfl rfl (by unfold hk_ok; omega) (fun _ k hk => by match k, hk with | 0, _ => exact trivial | 1, _ => exact ⟨0, rfl, by decide, by decide⟩ | 2, _ => exact ⟨0, rfl, trivial⟩) (fun h => absurd h (by decide)) (by show 59 + 1 ≤ 65; omega) (by show 6802 + 3 ≤ 7268; omega) dX6_init_55 (fun b53 H zb53 hZ => ?_)
  refine W.cs (cells' := 60) (slots' := 6805) (by omega) (by omega) ?_
  obtain ⟨κ54, eκ54⟩ : ∃ z, z = hp_kk κ49 b53 (34) := ⟨_, rfl⟩
  rw [← eκ54] at hZ
  have k55 : κ54 h0 = 105 := by rw [eκ54, hp_kk_n (ne_k k52 zb53 (by omega))]; exact k52
  have k56 : κ54 b20 = 80 := by rw [eκ54, hp_kk_n (ne_k k50 zb53 (by omega))]; exact k50
  have k57 : κ54 b53 = 34 := by rw [eκ54]; exact hp_kk_s _ _ _
  have hup : ∀ a, κ54 a = 80 → a = b20 := fun a h => hup a (by by_cases ha : a = b53; (rw [ha, k57] at h; omega); (rw [eκ54, hp_kk_n ha] at h; exact h))
  have hm : ∀ a, a ≠ h0 → a ≠ b53 → hl_P [0, 3, 10, 12, 16, 80] (κ54 a) ((κ54 a - 300) % 20 < 14) := by
    intro a ha hab
    rw [eκ54, hp_kk_n hab]; exact hm a ha
  refine lv_dup hx hb dX6_init_58 rfl ?_
  refine hp_callT (va_runIN (As := []) (rest := [.ref b53, .ref h0]) ⟨hx, hb, hml, hown, hts⟩ (c_X5_init l dC dI dA κ54 B g b53 k57 (fun a b9 h9 => by rw [h9.1, h9.2]; exact hg4) hg42 (fun a h9 => by by_cases ha : a = h0; (rw [ha, k55] at h9; omega); (by_cases hab : a = b53; (rw [hab, k57] at h9; omega); (exact hl_ne (hm a ha hab) (by decide) (by decide) h9)))) ⟨va_cnB 0 hts gX6_init_X5_init_n42 rfl rfl rfl (hN _ (List.mem_of_getElem? (i := 2) rfl)) (hts (.initialized RX5) (List.mem_of_getElem? (i := 22) rfl)) (by decide +kernel) ⟨Nat.le_of_ble_eq_true rfl, Nat.le_of_ble_eq_true rfl⟩, rfl, (hts (.instanceMethod yX5_init) (List.mem_of_getElem? (i := 65) rfl))⟩ (hp_preT [.ref b53] hK hN hAO hZ) rfl rfl hl.1 rfl (lv_room (Nat.le_of_ble_eq_true rfl)) dX6_init_59 ⟨(by show 60 + 1 ≤ 65; omega), (by show 6805 + 439 ≤ 7268; omega)⟩) hZ (fun κ58 H locs hDκ58 hZ => ?_)
  refine W.cs (cells' := 61) (slots' := 7244) (by omega) (by omega) ?_
  have k59 : κ58 h0 = 105 := (hDκ58.2.1 h0 (by rw [k55]; omega) (fun h9 => by rw [h9, k57] at k55; omega)).trans k55
  have k60 : κ58 b20 = 80 := (hDκ58.2.1 b20 (by rw [k56]; omega) (fun h9 => by rw [h9, k57] at k56; omega)).trans k56
  have k61 : κ58 b53 = 4 := hDκ58.1
  have hup : ∀ a, κ58 a = 80 → a = b20 := fun a h => by
    by_cases hab : a = b53
    · rw [hab, k61] at h; omega
    · by_cases hz9 : κ54 a = 0
      · have h3 : (κ58 a) = 0 ∨ (κ58 a) = 17 := hDκ58.2.2 a hz9; omega
      · exact hup a (by rw [← hDκ58.2.1 a hz9 hab]; exact h)
  have hm : ∀ a, a ≠ h0 → hl_P [0, 3, 4, 10, 12, 16, 17, 80] (κ58 a) ((κ58 a - 300) % 20 < 14) := by
    intro a ha
    by_cases hab : a = b53
    · rw [hab, hDκ58.1]; exact Or.inl (by decide)
    · by_cases hz9 : κ54 a = 0
      · have h3 : (κ58 a) = 0 ∨ (κ58 a) = 17 := hDκ58.2.2 a hz9
        by_cases h8 : 300 ≤ κ58 a
        · exact Or.inr (by omega)
        · refine Or.inl ?_
          rcases (show κ58 a = 0 ∨ κ58 a = 17 by omega) with h7 | h7 <;> rw [h7] <;> decide
      · rw [hDκ58.2.1 a hz9 hab]; exact (hm a ha hab).mono (by decide) (fun h8 => by omega)
  refine hp_putF (C := RX6) (T := TX6) (N := 12) (ci := 6) (kd := 105) hx hb hts iX6_init_X6 hown hK hZ.2.2.2.2 k59 (rfl : hk_t 105 = (1, 6, 12)) rfl 6 (by decide) (hts (.fieldLink RX6 43 "NeighborBook" "latest" "LNeighborBook$SentFrame;") (List.mem_of_getElem? (i := 23) rfl)) (fun _ h9 => h9) tyX6 tyX6_ok nmX6 (v := .ref b53) rfl rfl (by omega) hZ.1 rfl hin rfl dX6_init_62 (fun F H locs hM hO hS => ?_)
  have hZ := hp_step (k1 := 105) (k2 := 110) hZ.1 hZ.2.1 hZ.2.2.1 (Nat.le_trans hBz hS.1) hM hO hS k59 ((rfl : hk_t 110 = (1, 6, 12)).trans (rfl : hk_t 105 = (1, 6, 12)).symm) (by unfold hk_ok; omega) (by rw [(rfl : hk_t 110 = (1, 6, 12))]; decide) (fun a j hj _ h => by have := hk_sr (hZ.2.2.1 a) h hj; omega) (fun j hj h => by have := hk_sr (kd := 110) (by unfold hk_ok; omega) h hj; omega) ⟨b53, rfl, k61⟩ (fun j hj hl w hw => by
        have hl : j < 12 := by rw [(rfl : hk_t 105 = (1, 6, 12))] at hl; exact hl
        match j, hj, hl, hw with
        | 0, _, _, hw => exact hw
        | 1, _, _, hw => exact hw
        | 2, _, _, hw => exact hw
        | 3, _, _, hw => exact hw
        | 4, _, _, hw => exact hw
        | 5, _, _, hw => exact hw
        | 7, _, _, hw => exact hw
        | 8, _, _, hw => exact hw
        | 9, _, _, hw => exact hw
        | 10, _, _, hw => exact hw
        | 11, _, _, hw => exact hw
        | 6, hj, _, _ => exact absurd rfl hj) (fun h => absurd h (by decide))
  obtain ⟨κ62, eκ62⟩ : ∃ z, z = hp_kk κ58 h0 (110) := ⟨_, rfl⟩
  rw [← eκ62] at hZ
  have k63 : κ62 b20 = 80 := by rw [eκ62, hp_kk_n (fun h9 => by rw [h9, k59] at k60; omega)]; exact k60
  have k64 : κ62 b53 = 4 := by rw [eκ62, hp_kk_n (fun h9 => by rw [h9, k59] at k61; omega)]; exact k61
  have k65 : κ62 h0 = 110 := by rw [eκ62]; exact hp_kk_s _ _ _
  have hm : ∀ a, a ≠ h0 → hl_P [0, 3, 4, 10, 12, 16, 17, 80] (κ62 a) ((κ62 a - 300) % 20 < 14) := fun a ha => by rw [eκ62, hp_kk_n ha]; exact hm a ha
  have hup : ∀ a, κ62 a = 80 → a = b20 := fun a h => hup a (by by_cases ha : a = h0; (rw [ha, k65] at h; omega); (rw [eκ62, hp_kk_n ha] at h; exact h))
  refine lv_aload_n hx hb dX6_init_65 rfl (lv_at hl 0 rfl) ?_
  refine hq_bipush hx hb dX6_init_66 (by decide) (fun z66 ez66 => ?_)
  refine hp_put (C := RX6) (T := TX6) (N := 12) (ci := 6) (kd := 110) hx hb hts iX6_init_X6 hown hK hZ.2.2.2.2 k65 rfl rfl 7 (by decide) (hts (.fieldLink RX6 47 "NeighborBook" "interval" "I") (List.mem_of_getElem? (i := 24) rfl)) (fun _ h9 => h9) tyX6 tyX6_ok nmX6 (v := .int z66) rfl rfl (by decide) hZ.1 rfl (hs_i_ok (sp := (1, 0)) rfl trivial) dX6_init_68 (fun H locs hJ => ?_)
  have hZ := (⟨hZ.1, hZ.2.1, hZ.2.2.1, Nat.le_trans hBz hJ.2.1, hJ⟩ : hp_Z dC dI dA κ62 B g s.heap H locs)
  refine lv_aload_n hx hb dX6_init_71 rfl (lv_at hl 0 rfl) ?_
  refine hq_iconst hx hb dX6_init_72 (by decide) (by decide) (fun z67 ez67 => ?_)
  refine hp_put (C := RX6) (T := TX6) (N := 12) (ci := 6) (kd := 110) hx hb hts iX6_init_X6 hown hK hZ.2.2.2.2 k65 rfl rfl 8 (by decide) (hts (.fieldLink RX6 51 "NeighborBook" "hold" "I") (List.mem_of_getElem? (i := 25) rfl)) (fun _ h9 => h9) tyX6 tyX6_ok nmX6 (v := .int z67) rfl rfl (by decide) hZ.1 rfl (hs_i_ok (sp := (1, 0)) rfl trivial) dX6_init_73 (fun H locs hJ => ?_)
  have hZ := (⟨hZ.1, hZ.2.1, hZ.2.2.1, Nat.le_trans hBz hJ.2.1, hJ⟩ : hp_Z dC dI dA κ62 B g s.heap H locs)
  refine lv_aload_n hx hb dX6_init_76 rfl (lv_at hl 0 rfl) ?_
  refine hq_iconst hx hb dX6_init_77 (by decide) (by decide) (fun z68 ez68 => ?_)
  refine hp_put (C := RX6) (T := TX6) (N := 12) (ci := 6) (kd := 110) hx hb hts iX6_init_X6 hown hK hZ.2.2.2.2 k65 rfl rfl 9 (by decide) (hts (.fieldLink RX6 54 "NeighborBook" "quick" "I") (List.mem_of_getElem? (i := 26) rfl)) (fun _ h9 => h9) tyX6 tyX6_ok nmX6 (v := .int z68) rfl rfl (by decide) hZ.1 rfl (hs_i_ok (sp := (1, 0)) rfl trivial) dX6_init_78 (fun H locs hJ => ?_)
  have hZ := (⟨hZ.1, hZ.2.1, hZ.2.2.1, Nat.le_trans hBz hJ.2.1, hJ⟩ : hp_Z dC dI dA κ62 B g s.heap H locs)
  refine hq_iconst hx hb dX6_init_81 (by decide) (by decide) (fun z69 ez69 => ?_)
  refine lv_istore_n (lv' := [(1, .int z69), (0, .ref h0)]) hx hb dX6_init_82 rfl hl (by decide) rfl (fun ls hl => ?_)
  exact lp_X6_init l hx hb hr hts hown hlocks hml hK hN hAO hBz hZs hT hg1 hgp 5 0 z69 κ62 _ _ ls (by omega) (by omega) (by omega) k65 k63 (fun a ha hab => Or.inl (hl_rm (hm a ha) (fun h9 => hab (hup a h9)) (by decide))) hZ (lv_sub hl [1, 0] rfl)
end
