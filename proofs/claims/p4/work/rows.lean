section
-- ===== PART A: goes FIRST, ahead of the names: the tables' words, and 'selects' of the private methods out of them =====
/-- a private method of a class that the tables say can be made, by its rows of tables_1 -/
def lw_okq (q : MethodName × Nat) : Prop := (q.1.cls ≠ "java/lang/invoke/MethodHandle" ∧ q.1.cls ≠ "java/lang/invoke/VarHandle") ∧ Cond.instantiable q.1.cls q.2 ∈ tables_1 ∧ Cond.privateMethod q.1 ∈ tables_1 ∧ Cond.instanceMethod q.1 ∈ tables_1
theorem lw_p0 : lw_okq (⟨"NeighborBook", "tellNothing", "(I)V"⟩, 12) := ⟨⟨by decide +kernel, by decide +kernel⟩, List.mem_of_getElem? (i := 13) (by decide +kernel), List.mem_of_getElem? (i := 202) (by decide +kernel), List.mem_of_getElem? (i := 203) (by decide +kernel)⟩
theorem lw_p1 : lw_okq (⟨"NeighborBook", "hurryAll", "()V"⟩, 12) := ⟨⟨by decide +kernel, by decide +kernel⟩, List.mem_of_getElem? (i := 13) (by decide +kernel), List.mem_of_getElem? (i := 219) (by decide +kernel), List.mem_of_getElem? (i := 220) (by decide +kernel)⟩
theorem lw_p2 : lw_okq (⟨"NeighborBook", "tellTyped", "(I)V"⟩, 12) := ⟨⟨by decide +kernel, by decide +kernel⟩, List.mem_of_getElem? (i := 13) (by decide +kernel), List.mem_of_getElem? (i := 227) (by decide +kernel), List.mem_of_getElem? (i := 228) (by decide +kernel)⟩
theorem lw_p3 : lw_okq (⟨"NeighborBook$SentFrame", "putHead", "(II)V"⟩, 3) := ⟨⟨by decide +kernel, by decide +kernel⟩, List.mem_of_getElem? (i := 95) (by decide +kernel), List.mem_of_getElem? (i := 263) (by decide +kernel), List.mem_of_getElem? (i := 264) (by decide +kernel)⟩
theorem lw_p4 : lw_okq (⟨"NeighborBook$SentFrame", "putByte", "(I)V"⟩, 3) := ⟨⟨by decide +kernel, by decide +kernel⟩, List.mem_of_getElem? (i := 95) (by decide +kernel), List.mem_of_getElem? (i := 267) (by decide +kernel), List.mem_of_getElem? (i := 268) (by decide +kernel)⟩
theorem lw_p5 : lw_okq (⟨"NeighborBook$SentFrame", "putContent", "(ILNeighborBook$Contents;)V"⟩, 3) := ⟨⟨by decide +kernel, by decide +kernel⟩, List.mem_of_getElem? (i := 95) (by decide +kernel), List.mem_of_getElem? (i := 271) (by decide +kernel), List.mem_of_getElem? (i := 272) (by decide +kernel)⟩
theorem lw_p6 : lw_okq (⟨"NeighborBook$FrameReader", "faultOfPart", "(IIII)I"⟩, 2) := ⟨⟨by decide +kernel, by decide +kernel⟩, List.mem_of_getElem? (i := 80) (by decide +kernel), List.mem_of_getElem? (i := 308) (by decide +kernel), List.mem_of_getElem? (i := 309) (by decide +kernel)⟩
theorem lw_p7 : lw_okq (⟨"NeighborBook$FrameReader", "takePart", "(I[BII)V"⟩, 2) := ⟨⟨by decide +kernel, by decide +kernel⟩, List.mem_of_getElem? (i := 80) (by decide +kernel), List.mem_of_getElem? (i := 320) (by decide +kernel), List.mem_of_getElem? (i := 321) (by decide +kernel)⟩
theorem lw_p8 : lw_okq (⟨"NeighborBook", "learn", "(I)I"⟩, 12) := ⟨⟨by decide +kernel, by decide +kernel⟩, List.mem_of_getElem? (i := 13) (by decide +kernel), List.mem_of_getElem? (i := 325) (by decide +kernel), List.mem_of_getElem? (i := 326) (by decide +kernel)⟩
theorem lw_p9 : lw_okq (⟨"NeighborBookModel", "send", "(II)V"⟩, 24) := ⟨⟨by decide +kernel, by decide +kernel⟩, List.mem_of_getElem? (i := 464) (by decide +kernel), List.mem_of_getElem? (i := 563) (by decide +kernel), List.mem_of_getElem? (i := 564) (by decide +kernel)⟩
theorem lw_p10 : lw_okq (⟨"NeighborBookModel", "head", "(II)V"⟩, 24) := ⟨⟨by decide +kernel, by decide +kernel⟩, List.mem_of_getElem? (i := 464) (by decide +kernel), List.mem_of_getElem? (i := 567) (by decide +kernel), List.mem_of_getElem? (i := 568) (by decide +kernel)⟩
theorem lw_p11 : lw_okq (⟨"NeighborBookModel", "put", "(I)V"⟩, 24) := ⟨⟨by decide +kernel, by decide +kernel⟩, List.mem_of_getElem? (i := 464) (by decide +kernel), List.mem_of_getElem? (i := 571) (by decide +kernel), List.mem_of_getElem? (i := 572) (by decide +kernel)⟩
theorem lw_p12 : lw_okq (⟨"NeighborBookModel", "forget", "(I)V"⟩, 24) := ⟨⟨by decide +kernel, by decide +kernel⟩, List.mem_of_getElem? (i := 464) (by decide +kernel), List.mem_of_getElem? (i := 575) (by decide +kernel), List.mem_of_getElem? (i := 576) (by decide +kernel)⟩
theorem lw_p13 : lw_okq (⟨"NeighborBookModel", "move", "(II)V"⟩, 24) := ⟨⟨by decide +kernel, by decide +kernel⟩, List.mem_of_getElem? (i := 464) (by decide +kernel), List.mem_of_getElem? (i := 579) (by decide +kernel), List.mem_of_getElem? (i := 580) (by decide +kernel)⟩
theorem lw_p14 : lw_okq (⟨"NeighborBookModel", "heard", "(I)I"⟩, 24) := ⟨⟨by decide +kernel, by decide +kernel⟩, List.mem_of_getElem? (i := 464) (by decide +kernel), List.mem_of_getElem? (i := 587) (by decide +kernel), List.mem_of_getElem? (i := 588) (by decide +kernel)⟩
theorem lw_p15 : lw_okq (⟨"NeighborBookModel", "parse", "()I"⟩, 24) := ⟨⟨by decide +kernel, by decide +kernel⟩, List.mem_of_getElem? (i := 464) (by decide +kernel), List.mem_of_getElem? (i := 591) (by decide +kernel), List.mem_of_getElem? (i := 592) (by decide +kernel)⟩
def lw_privs_1 : List (MethodName × Nat) := [(⟨"NeighborBook", "tellNothing", "(I)V"⟩, 12), (⟨"NeighborBook", "hurryAll", "()V"⟩, 12), (⟨"NeighborBook", "tellTyped", "(I)V"⟩, 12), (⟨"NeighborBook$SentFrame", "putHead", "(II)V"⟩, 3), (⟨"NeighborBook$SentFrame", "putByte", "(I)V"⟩, 3), (⟨"NeighborBook$SentFrame", "putContent", "(ILNeighborBook$Contents;)V"⟩, 3), (⟨"NeighborBook$FrameReader", "faultOfPart", "(IIII)I"⟩, 2), (⟨"NeighborBook$FrameReader", "takePart", "(I[BII)V"⟩, 2), (⟨"NeighborBook", "learn", "(I)I"⟩, 12), (⟨"NeighborBookModel", "send", "(II)V"⟩, 24), (⟨"NeighborBookModel", "head", "(II)V"⟩, 24), (⟨"NeighborBookModel", "put", "(I)V"⟩, 24), (⟨"NeighborBookModel", "forget", "(I)V"⟩, 24), (⟨"NeighborBookModel", "move", "(II)V"⟩, 24), (⟨"NeighborBookModel", "heard", "(I)I"⟩, 24), (⟨"NeighborBookModel", "parse", "()I"⟩, 24)]
theorem lw_r1 : ∀ q ∈ lw_privs_1, lw_okq q := List.forall_mem_cons.mpr ⟨lw_p0, List.forall_mem_cons.mpr ⟨lw_p1, List.forall_mem_cons.mpr ⟨lw_p2, List.forall_mem_cons.mpr ⟨lw_p3, List.forall_mem_cons.mpr ⟨lw_p4, List.forall_mem_cons.mpr ⟨lw_p5, List.forall_mem_cons.mpr ⟨lw_p6, List.forall_mem_cons.mpr ⟨lw_p7, List.forall_mem_cons.mpr ⟨lw_p8, List.forall_mem_cons.mpr ⟨lw_p9, List.forall_mem_cons.mpr ⟨lw_p10, List.forall_mem_cons.mpr ⟨lw_p11, List.forall_mem_cons.mpr ⟨lw_p12, List.forall_mem_cons.mpr ⟨lw_p13, List.forall_mem_cons.mpr ⟨lw_p14, List.forall_mem_cons.mpr ⟨lw_p15, fun _ h => absurd h List.not_mem_nil⟩⟩⟩⟩⟩⟩⟩⟩⟩⟩⟩⟩⟩⟩⟩⟩
theorem lw_p16 : lw_okq (⟨"NeighborBookModel", "isAlike", "(II)Z"⟩, 24) := ⟨⟨by decide +kernel, by decide +kernel⟩, List.mem_of_getElem? (i := 464) (by decide +kernel), List.mem_of_getElem? (i := 595) (by decide +kernel), List.mem_of_getElem? (i := 596) (by decide +kernel)⟩
def lw_privs_2 : List (MethodName × Nat) := [(⟨"NeighborBookModel", "isAlike", "(II)Z"⟩, 24)]
theorem lw_r2 : ∀ q ∈ lw_privs_2, lw_okq q := List.forall_mem_cons.mpr ⟨lw_p16, fun _ h => absurd h List.not_mem_nil⟩
def lw_privs : List (MethodName × Nat) := lw_privs_1 ++ (lw_privs_2)
def lw_tbl : List Cond := k2_sels lw_privs ++ tables_1
theorem lw_privs_ok : ∀ q ∈ lw_privs, lw_okq q := by
  show ∀ q ∈ lw_privs_1 ++ (lw_privs_2), lw_okq q
  exact List.forall_mem_append.mpr ⟨lw_r1, lw_r2⟩
end
section
/-! ===== BEGIN words of one list among another's, by their places ===== -/
theorem goodIn_r {big : List Cond} (ws : List Cond) (ps : List Nat) (hp : ws = ps.filterMap (fun i => big[i]?)) (h : ws.all goodWord = true) : GoodIn big ws := by
  intro w hw
  have h1 := List.all_eq_true.mp h w hw
  rw [hp] at hw
  obtain ⟨i, -, hi⟩ := List.mem_filterMap.mp hw
  have hm : w ∈ big := by first | exact List.mem_of_getElem? hi | exact List.getElem?_mem hi
  exact ⟨hm, good_of_word h1⟩
theorem goodIn_app {big a b : List Cond} (ha : GoodIn big a) (hb : GoodIn big b) : GoodIn big (a ++ b) := fun w h => (List.mem_append.mp h).elim (ha w) (hb w)
theorem goodIn_ca {big a b : List Cond} {c : Cond} (ha : GoodIn big (c :: a)) (hb : GoodIn big b) : GoodIn big (c :: (a ++ b)) := fun w h => (List.mem_cons.mp h).elim (fun e => ha w (List.mem_cons.mpr (Or.inl e))) (fun h => (List.mem_append.mp h).elim (fun h => ha w (List.mem_cons.mpr (Or.inr h))) (hb w))
theorem goodIn_sub {big ws : List Cond} (hm : ∀ w ∈ ws, w ∈ big) (h : ws.all goodWord = true) : GoodIn big ws := fun w hw => ⟨hm w hw, good_of_word (List.all_eq_true.mp h w hw)⟩
/-! ===== END ===== -/

/-! ===== BEGIN printed: names, fields, word lists, decode rows ===== -/
def RX0 : String := "NeighborBook$Contents"
def TX0 : u_T := fun k => match k with
  | 0 => ("NeighborBook$Contents", "sizes", "[I", true)
  | _ => ("NeighborBook$Contents", "bytes", "[B", true)
def tyX0 : Nat → FieldType := fun k => match k with
  | 0 => .array .int
  | _ => .array .byte
abbrev wsX00 : List Cond := u_ws RX0 TX0 2
theorem nmX0 : ∀ a, a < 2 → ∀ b, b < 2 → a ≠ b → (TX0 a).2.1 ≠ (TX0 b).2.1 := by decide +kernel
theorem tyX0_ok : ∀ k, k < 2 → parseFieldDescriptor (TX0 k).2.2.1 = some (tyX0 k) := by decide +kernel
abbrev cX0_init : ByteArray := prog_2_method_1_code
def yX0_init : MethodName := ⟨RX0, "<init>", "()V"⟩
abbrev cX0_isKept : ByteArray := prog_2_method_2_code
def yX0_isKept : MethodName := ⟨RX0, "isKept", "(I)Z"⟩
abbrev cX0_startOf : ByteArray := prog_2_method_3_code
def yX0_startOf : MethodName := ⟨RX0, "startOf", "(I)I"⟩
abbrev cX0_clear : ByteArray := prog_2_method_4_code
def yX0_clear : MethodName := ⟨RX0, "clear", "()V"⟩
abbrev cX0_keep : ByteArray := prog_2_method_5_code
def yX0_keep : MethodName := ⟨RX0, "keep", "(I[BII)V"⟩
abbrev cX0_drop : ByteArray := prog_2_method_6_code
def yX0_drop : MethodName := ⟨RX0, "drop", "(I)V"⟩
abbrev cX0_has : ByteArray := prog_2_method_7_code
def yX0_has : MethodName := ⟨RX0, "has", "(I)Z"⟩
abbrev cX0_sizeOf : ByteArray := prog_2_method_8_code
def yX0_sizeOf : MethodName := ⟨RX0, "sizeOf", "(I)I"⟩
abbrev cX0_byteAt : ByteArray := prog_2_method_9_code
def yX0_byteAt : MethodName := ⟨RX0, "byteAt", "(II)I"⟩
abbrev cX0_isSame : ByteArray := prog_2_method_10_code
def yX0_isSame : MethodName := ⟨RX0, "isSame", "(I[BII)Z"⟩
abbrev cX0_isSameStation : ByteArray := prog_2_method_11_code
def yX0_isSameStation : MethodName := ⟨RX0, "isSameStation", "(LNeighborBook$Contents;)Z"⟩
abbrev cX0_typeBits : ByteArray := prog_2_method_12_code
def yX0_typeBits : MethodName := ⟨RX0, "typeBits", "()I"⟩
def RX1 : String := "NeighborBook$FrameReader"
def TX1 : u_T := fun k => match k with
  | 0 => ("NeighborBook$FrameReader", "contents", "LNeighborBook$Contents;", false)
  | _ => ("NeighborBook$FrameReader", "held", "I", false)
def tyX1 : Nat → FieldType := fun k => match k with
  | 0 => .object "NeighborBook$Contents"
  | _ => .int
abbrev wsX10 : List Cond := u_ws RX1 TX1 2
theorem nmX1 : ∀ a, a < 2 → ∀ b, b < 2 → a ≠ b → (TX1 a).2.1 ≠ (TX1 b).2.1 := by decide +kernel
theorem tyX1_ok : ∀ k, k < 2 → parseFieldDescriptor (TX1 k).2.2.1 = some (tyX1 k) := by decide +kernel
abbrev cX1_init : ByteArray := prog_3_method_1_code
def yX1_init : MethodName := ⟨RX1, "<init>", "()V"⟩
abbrev cX1_contents : ByteArray := prog_3_method_2_code
def yX1_contents : MethodName := ⟨RX1, "contents", "()LNeighborBook$Contents;"⟩
abbrev cX1_held : ByteArray := prog_3_method_3_code
def yX1_held : MethodName := ⟨RX1, "held", "()I"⟩
abbrev cX1_useNext : ByteArray := prog_3_method_4_code
def yX1_useNext : MethodName := ⟨RX1, "useNext", "(LNeighborBook$Contents;)V"⟩
abbrev cX1_read : ByteArray := prog_3_method_5_code
def yX1_read : MethodName := ⟨RX1, "read", "([BI)I"⟩
abbrev cX1_faultOfPart : ByteArray := prog_3_method_6_code
def yX1_faultOfPart : MethodName := ⟨RX1, "faultOfPart", "(IIII)I"⟩
abbrev cX1_isOutOfOrder : ByteArray := prog_3_method_7_code
def yX1_isOutOfOrder : MethodName := ⟨RX1, "isOutOfOrder", "(II)Z"⟩
abbrev cX1_isWrongSize : ByteArray := prog_3_method_8_code
def yX1_isWrongSize : MethodName := ⟨RX1, "isWrongSize", "(II)Z"⟩
abbrev cX1_takePart : ByteArray := prog_3_method_9_code
def yX1_takePart : MethodName := ⟨RX1, "takePart", "(I[BII)V"⟩
abbrev cX1_pairAt : ByteArray := prog_3_method_10_code
def yX1_pairAt : MethodName := ⟨RX1, "pairAt", "([BI)I"⟩
def RX2 : String := "NeighborBook$Neighbor"
def TX2 : u_T := fun k => match k with
  | 0 => ("NeighborBook$Neighbor", "contents", "LNeighborBook$Contents;", false)
  | 1 => ("NeighborBook$Neighbor", "port", "I", false)
  | 2 => ("NeighborBook$Neighbor", "ticksLeft", "I", false)
  | _ => ("NeighborBook$Neighbor", "frames", "I", false)
def tyX2 : Nat → FieldType := fun k => match k with
  | 0 => .object "NeighborBook$Contents"
  | 1 => .int
  | 2 => .int
  | _ => .int
abbrev wsX20 : List Cond := u_ws RX2 TX2 4
theorem nmX2 : ∀ a, a < 4 → ∀ b, b < 4 → a ≠ b → (TX2 a).2.1 ≠ (TX2 b).2.1 := by decide +kernel
theorem tyX2_ok : ∀ k, k < 4 → parseFieldDescriptor (TX2 k).2.2.1 = some (tyX2 k) := by decide +kernel
abbrev cX2_init : ByteArray := prog_4_method_1_code
def yX2_init : MethodName := ⟨RX2, "<init>", "()V"⟩
abbrev cX2_contents : ByteArray := prog_4_method_2_code
def yX2_contents : MethodName := ⟨RX2, "contents", "()LNeighborBook$Contents;"⟩
abbrev cX2_portOf : ByteArray := prog_4_method_3_code
def yX2_portOf : MethodName := ⟨RX2, "portOf", "()I"⟩
abbrev cX2_begin : ByteArray := prog_4_method_4_code
def yX2_begin : MethodName := ⟨RX2, "begin", "(I)V"⟩
abbrev cX2_renew : ByteArray := prog_4_method_5_code
def yX2_renew : MethodName := ⟨RX2, "renew", "(LNeighborBook$Contents;I)LNeighborBook$Contents;"⟩
abbrev cX2_passTick : ByteArray := prog_4_method_6_code
def yX2_passTick : MethodName := ⟨RX2, "passTick", "()Z"⟩
abbrev cX2_tellAbout : ByteArray := prog_4_method_7_code
def yX2_tellAbout : MethodName := ⟨RX2, "tellAbout", "(I)I"⟩
def RX3 : String := "NeighborBook$Neighbors"
def TX3 : u_T := fun k => match k with
  | 0 => ("NeighborBook$Neighbors", "rows", "[LNeighborBook$Neighbor;", true)
  | _ => ("NeighborBook$Neighbors", "size", "I", false)
def tyX3 : Nat → FieldType := fun k => match k with
  | 0 => .array (.object "NeighborBook$Neighbor")
  | _ => .int
abbrev wsX30 : List Cond := u_ws RX3 TX3 2
theorem nmX3 : ∀ a, a < 2 → ∀ b, b < 2 → a ≠ b → (TX3 a).2.1 ≠ (TX3 b).2.1 := by decide +kernel
theorem tyX3_ok : ∀ k, k < 2 → parseFieldDescriptor (TX3 k).2.2.1 = some (tyX3 k) := by decide +kernel
abbrev cX3_init : ByteArray := prog_5_method_1_code
def yX3_init : MethodName := ⟨RX3, "<init>", "()V"⟩
abbrev cX3_size : ByteArray := prog_5_method_2_code
def yX3_size : MethodName := ⟨RX3, "size", "()I"⟩
abbrev cX3_has : ByteArray := prog_5_method_3_code
def yX3_has : MethodName := ⟨RX3, "has", "(I)Z"⟩
abbrev cX3_at : ByteArray := prog_5_method_4_code
def yX3_at : MethodName := ⟨RX3, "at", "(I)LNeighborBook$Neighbor;"⟩
abbrev cX3_sizeAt : ByteArray := prog_5_method_5_code
def yX3_sizeAt : MethodName := ⟨RX3, "sizeAt", "(I)I"⟩
abbrev cX3_find : ByteArray := prog_5_method_6_code
def yX3_find : MethodName := ⟨RX3, "find", "(ILNeighborBook$Contents;)I"⟩
abbrev cX3_add : ByteArray := prog_5_method_7_code
def yX3_add : MethodName := ⟨RX3, "add", "(I)I"⟩
abbrev cX3_forget : ByteArray := prog_5_method_8_code
def yX3_forget : MethodName := ⟨RX3, "forget", "(I)V"⟩
abbrev cX3_forgetAllAt : ByteArray := prog_5_method_9_code
def yX3_forgetAllAt : MethodName := ⟨RX3, "forgetAllAt", "(I)V"⟩
abbrev cX3_passTick : ByteArray := prog_5_method_10_code
def yX3_passTick : MethodName := ⟨RX3, "passTick", "()V"⟩
def RX4 : String := "NeighborBook$Port"
def TX4 : u_T := fun k => match k with
  | 0 => ("NeighborBook$Port", "up", "Z", false)
  | 1 => ("NeighborBook$Port", "waitLeft", "I", false)
  | 2 => ("NeighborBook$Port", "quickLeft", "I", false)
  | 3 => ("NeighborBook$Port", "framesSent", "I", false)
  | 4 => ("NeighborBook$Port", "heardWell", "I", false)
  | _ => ("NeighborBook$Port", "heardFaulty", "I", false)
def tyX4 : Nat → FieldType := fun k => match k with
  | 0 => .boolean
  | 1 => .int
  | 2 => .int
  | 3 => .int
  | 4 => .int
  | _ => .int
abbrev wsX40 : List Cond := u_ws RX4 TX4 6
theorem nmX4 : ∀ a, a < 6 → ∀ b, b < 6 → a ≠ b → (TX4 a).2.1 ≠ (TX4 b).2.1 := by decide +kernel
theorem tyX4_ok : ∀ k, k < 6 → parseFieldDescriptor (TX4 k).2.2.1 = some (tyX4 k) := by decide +kernel
abbrev cX4_init : ByteArray := prog_6_method_1_code
def yX4_init : MethodName := ⟨RX4, "<init>", "()V"⟩
abbrev cX4_isUp : ByteArray := prog_6_method_2_code
def yX4_isUp : MethodName := ⟨RX4, "isUp", "()Z"⟩
abbrev cX4_goUp : ByteArray := prog_6_method_3_code
def yX4_goUp : MethodName := ⟨RX4, "goUp", "(I)V"⟩
abbrev cX4_goDown : ByteArray := prog_6_method_4_code
def yX4_goDown : MethodName := ⟨RX4, "goDown", "()V"⟩
abbrev cX4_hurry : ByteArray := prog_6_method_5_code
def yX4_hurry : MethodName := ⟨RX4, "hurry", "()V"⟩
abbrev cX4_greet : ByteArray := prog_6_method_6_code
def yX4_greet : MethodName := ⟨RX4, "greet", "(I)V"⟩
abbrev cX4_noteHeard : ByteArray := prog_6_method_7_code
def yX4_noteHeard : MethodName := ⟨RX4, "noteHeard", "(Z)V"⟩
abbrev cX4_passTick : ByteArray := prog_6_method_8_code
def yX4_passTick : MethodName := ⟨RX4, "passTick", "(I)Z"⟩
abbrev cX4_tellAbout : ByteArray := prog_6_method_9_code
def yX4_tellAbout : MethodName := ⟨RX4, "tellAbout", "(I)I"⟩
def RX5 : String := "NeighborBook$SentFrame"
def TX5 : u_T := fun k => match k with
  | 0 => ("NeighborBook$SentFrame", "bytes", "[B", true)
  | 1 => ("NeighborBook$SentFrame", "length", "I", false)
  | _ => ("NeighborBook$SentFrame", "port", "I", false)
def tyX5 : Nat → FieldType := fun k => match k with
  | 0 => .array .byte
  | 1 => .int
  | _ => .int
abbrev wsX50 : List Cond := u_ws RX5 TX5 3
theorem nmX5 : ∀ a, a < 3 → ∀ b, b < 3 → a ≠ b → (TX5 a).2.1 ≠ (TX5 b).2.1 := by decide +kernel
theorem tyX5_ok : ∀ k, k < 3 → parseFieldDescriptor (TX5 k).2.2.1 = some (tyX5 k) := by decide +kernel
abbrev cX5_init : ByteArray := prog_7_method_1_code
def yX5_init : MethodName := ⟨RX5, "<init>", "()V"⟩
abbrev cX5_length : ByteArray := prog_7_method_2_code
def yX5_length : MethodName := ⟨RX5, "length", "()I"⟩
abbrev cX5_portOf : ByteArray := prog_7_method_3_code
def yX5_portOf : MethodName := ⟨RX5, "portOf", "()I"⟩
abbrev cX5_byteAt : ByteArray := prog_7_method_4_code
def yX5_byteAt : MethodName := ⟨RX5, "byteAt", "(I)I"⟩
abbrev cX5_write : ByteArray := prog_7_method_5_code
def yX5_write : MethodName := ⟨RX5, "write", "(ILNeighborBook$Contents;I)V"⟩
abbrev cX5_putHead : ByteArray := prog_7_method_6_code
def yX5_putHead : MethodName := ⟨RX5, "putHead", "(II)V"⟩
abbrev cX5_putContent : ByteArray := prog_7_method_7_code
def yX5_putContent : MethodName := ⟨RX5, "putContent", "(ILNeighborBook$Contents;)V"⟩
abbrev cX5_putByte : ByteArray := prog_7_method_8_code
def yX5_putByte : MethodName := ⟨RX5, "putByte", "(I)V"⟩
def RX6 : String := "NeighborBook"
def TX6 : u_T := fun k => match k with
  | 0 => ("NeighborBook", "typed", "[B", true)
  | 1 => ("NeighborBook", "typedCount", "I", false)
  | 2 => ("NeighborBook", "told", "LNeighborBook$Contents;", true)
  | 3 => ("NeighborBook", "ports", "[LNeighborBook$Port;", true)
  | 4 => ("NeighborBook", "known", "LNeighborBook$Neighbors;", true)
  | 5 => ("NeighborBook", "reader", "LNeighborBook$FrameReader;", true)
  | 6 => ("NeighborBook", "latest", "LNeighborBook$SentFrame;", true)
  | 7 => ("NeighborBook", "interval", "I", false)
  | 8 => ("NeighborBook", "hold", "I", false)
  | 9 => ("NeighborBook", "quick", "I", false)
  | 10 => ("NeighborBook", "ticks", "I", false)
  | _ => ("NeighborBook", "latestFault", "I", false)
def tyX6 : Nat → FieldType := fun k => match k with
  | 0 => .array .byte
  | 1 => .int
  | 2 => .object "NeighborBook$Contents"
  | 3 => .array (.object "NeighborBook$Port")
  | 4 => .object "NeighborBook$Neighbors"
  | 5 => .object "NeighborBook$FrameReader"
  | 6 => .object "NeighborBook$SentFrame"
  | 7 => .int
  | 8 => .int
  | 9 => .int
  | 10 => .int
  | _ => .int
abbrev wsX60 : List Cond := u_ws RX6 TX6 12
theorem nmX6 : ∀ a, a < 12 → ∀ b, b < 12 → a ≠ b → (TX6 a).2.1 ≠ (TX6 b).2.1 := by decide +kernel
theorem tyX6_ok : ∀ k, k < 12 → parseFieldDescriptor (TX6 k).2.2.1 = some (tyX6 k) := by decide +kernel
abbrev cX6_init : ByteArray := prog_1_method_1_code
def yX6_init : MethodName := ⟨RX6, "<init>", "()V"⟩
abbrev cX6_type : ByteArray := prog_1_method_2_code
def yX6_type : MethodName := ⟨RX6, "type", "(JI)I"⟩
abbrev cX6_tell : ByteArray := prog_1_method_3_code
def yX6_tell : MethodName := ⟨RX6, "tell", "(I)I"⟩
abbrev cX6_set : ByteArray := prog_1_method_4_code
def yX6_set : MethodName := ⟨RX6, "set", "(II)I"⟩
abbrev cX6_port : ByteArray := prog_1_method_5_code
def yX6_port : MethodName := ⟨RX6, "port", "(II)I"⟩
abbrev cX6_hear : ByteArray := prog_1_method_6_code
def yX6_hear : MethodName := ⟨RX6, "hear", "(I)I"⟩
abbrev cX6_tick : ByteArray := prog_1_method_7_code
def yX6_tick : MethodName := ⟨RX6, "tick", "(I)I"⟩
abbrev cX6_about : ByteArray := prog_1_method_8_code
def yX6_about : MethodName := ⟨RX6, "about", "(II)I"⟩
abbrev cX6_count : ByteArray := prog_1_method_9_code
def yX6_count : MethodName := ⟨RX6, "count", "(I)I"⟩
abbrev cX6_sent : ByteArray := prog_1_method_10_code
def yX6_sent : MethodName := ⟨RX6, "sent", "(I)I"⟩
abbrev cX6_neighbor : ByteArray := prog_1_method_11_code
def yX6_neighbor : MethodName := ⟨RX6, "neighbor", "(II)I"⟩
abbrev cX6_content : ByteArray := prog_1_method_12_code
def yX6_content : MethodName := ⟨RX6, "content", "(III)I"⟩
abbrev cX6_check : ByteArray := prog_1_method_13_code
def yX6_check : MethodName := ⟨RX6, "check", "()I"⟩
abbrev cX6_isPort : ByteArray := prog_1_method_14_code
def yX6_isPort : MethodName := ⟨RX6, "isPort", "(I)Z"⟩
abbrev cX6_isTellable : ByteArray := prog_1_method_15_code
def yX6_isTellable : MethodName := ⟨RX6, "isTellable", "(II)Z"⟩
abbrev cX6_isMore : ByteArray := prog_1_method_16_code
def yX6_isMore : MethodName := ⟨RX6, "isMore", "(I)Z"⟩
abbrev cX6_tellNothing : ByteArray := prog_1_method_17_code
def yX6_tellNothing : MethodName := ⟨RX6, "tellNothing", "(I)V"⟩
abbrev cX6_tellTyped : ByteArray := prog_1_method_18_code
def yX6_tellTyped : MethodName := ⟨RX6, "tellTyped", "(I)V"⟩
abbrev cX6_hurryAll : ByteArray := prog_1_method_19_code
def yX6_hurryAll : MethodName := ⟨RX6, "hurryAll", "()V"⟩
abbrev cX6_learn : ByteArray := prog_1_method_20_code
def yX6_learn : MethodName := ⟨RX6, "learn", "(I)I"⟩
def RX7 : String := "NeighborBookModel"
def TX7 : u_T := fun k => match k with
  | 0 => ("NeighborBookModel", "typed", "[B", true)
  | 1 => ("NeighborBookModel", "typedSize", "I", false)
  | 2 => ("NeighborBookModel", "own", "[B", true)
  | 3 => ("NeighborBookModel", "ownSizes", "[I", true)
  | 4 => ("NeighborBookModel", "interval", "I", false)
  | 5 => ("NeighborBookModel", "hold", "I", false)
  | 6 => ("NeighborBookModel", "quick", "I", false)
  | 7 => ("NeighborBookModel", "up", "[Z", true)
  | 8 => ("NeighborBookModel", "sentFrames", "[I", true)
  | 9 => ("NeighborBookModel", "good", "[I", true)
  | 10 => ("NeighborBookModel", "bad", "[I", true)
  | 11 => ("NeighborBookModel", "waits", "[I", true)
  | 12 => ("NeighborBookModel", "quicks", "[I", true)
  | 13 => ("NeighborBookModel", "known", "I", false)
  | 14 => ("NeighborBookModel", "ports", "[I", true)
  | 15 => ("NeighborBookModel", "left", "[I", true)
  | 16 => ("NeighborBookModel", "frames", "[I", true)
  | 17 => ("NeighborBookModel", "bytes", "[B", true)
  | 18 => ("NeighborBookModel", "sizes", "[I", true)
  | 19 => ("NeighborBookModel", "ticks", "I", false)
  | 20 => ("NeighborBookModel", "fault", "I", false)
  | 21 => ("NeighborBookModel", "page", "[B", true)
  | 22 => ("NeighborBookModel", "pageSize", "I", false)
  | _ => ("NeighborBookModel", "pagePort", "I", false)
def tyX7 : Nat → FieldType := fun k => match k with
  | 0 => .array .byte
  | 1 => .int
  | 2 => .array .byte
  | 3 => .array .int
  | 4 => .int
  | 5 => .int
  | 6 => .int
  | 7 => .array .boolean
  | 8 => .array .int
  | 9 => .array .int
  | 10 => .array .int
  | 11 => .array .int
  | 12 => .array .int
  | 13 => .int
  | 14 => .array .int
  | 15 => .array .int
  | 16 => .array .int
  | 17 => .array .byte
  | 18 => .array .int
  | 19 => .int
  | 20 => .int
  | 21 => .array .byte
  | 22 => .int
  | _ => .int
abbrev wsX70 : List Cond := u_ws RX7 TX7 24
theorem nmX7 : ∀ a, a < 24 → ∀ b, b < 24 → a ≠ b → (TX7 a).2.1 ≠ (TX7 b).2.1 := by decide +kernel
theorem tyX7_ok : ∀ k, k < 24 → parseFieldDescriptor (TX7 k).2.2.1 = some (tyX7 k) := by decide +kernel
abbrev cX7_init : ByteArray := prog_9_method_1_code
def yX7_init : MethodName := ⟨RX7, "<init>", "()V"⟩
abbrev cX7_isMore : ByteArray := prog_9_method_2_code
def yX7_isMore : MethodName := ⟨RX7, "isMore", "(I)Z"⟩
abbrev cX7_type : ByteArray := prog_9_method_3_code
def yX7_type : MethodName := ⟨RX7, "type", "(JI)I"⟩
abbrev cX7_tell : ByteArray := prog_9_method_4_code
def yX7_tell : MethodName := ⟨RX7, "tell", "(I)I"⟩
abbrev cX7_set : ByteArray := prog_9_method_5_code
def yX7_set : MethodName := ⟨RX7, "set", "(II)I"⟩
abbrev cX7_put : ByteArray := prog_9_method_6_code
def yX7_put : MethodName := ⟨RX7, "put", "(I)V"⟩
abbrev cX7_head : ByteArray := prog_9_method_7_code
def yX7_head : MethodName := ⟨RX7, "head", "(II)V"⟩
abbrev cX7_send : ByteArray := prog_9_method_8_code
def yX7_send : MethodName := ⟨RX7, "send", "(II)V"⟩
abbrev cX7_port : ByteArray := prog_9_method_9_code
def yX7_port : MethodName := ⟨RX7, "port", "(II)I"⟩
abbrev cX7_move : ByteArray := prog_9_method_10_code
def yX7_move : MethodName := ⟨RX7, "move", "(II)V"⟩
abbrev cX7_forget : ByteArray := prog_9_method_11_code
def yX7_forget : MethodName := ⟨RX7, "forget", "(I)V"⟩
abbrev cX7_isAlike : ByteArray := prog_9_method_12_code
def yX7_isAlike : MethodName := ⟨RX7, "isAlike", "(II)Z"⟩
abbrev cX7_parse : ByteArray := prog_9_method_13_code
def yX7_parse : MethodName := ⟨RX7, "parse", "()I"⟩
abbrev cX7_heard : ByteArray := prog_9_method_14_code
def yX7_heard : MethodName := ⟨RX7, "heard", "(I)I"⟩
abbrev cX7_hear : ByteArray := prog_9_method_15_code
def yX7_hear : MethodName := ⟨RX7, "hear", "(I)I"⟩
abbrev cX7_tick : ByteArray := prog_9_method_16_code
def yX7_tick : MethodName := ⟨RX7, "tick", "(I)I"⟩
abbrev cX7_about : ByteArray := prog_9_method_17_code
def yX7_about : MethodName := ⟨RX7, "about", "(II)I"⟩
abbrev cX7_count : ByteArray := prog_9_method_18_code
def yX7_count : MethodName := ⟨RX7, "count", "(I)I"⟩
abbrev cX7_sent : ByteArray := prog_9_method_19_code
def yX7_sent : MethodName := ⟨RX7, "sent", "(I)I"⟩
abbrev cX7_neighbor : ByteArray := prog_9_method_20_code
def yX7_neighbor : MethodName := ⟨RX7, "neighbor", "(II)I"⟩
abbrev cX7_content : ByteArray := prog_9_method_21_code
def yX7_content : MethodName := ⟨RX7, "content", "(III)I"⟩
abbrev cX7_check : ByteArray := prog_9_method_22_code
def yX7_check : MethodName := ⟨RX7, "check", "()I"⟩
def RJ9 : String := "java/lang/Math"
def TJ9 : u_T := fun k => match k with
  | _ => ("", "", "", false)
def tyJ9 : Nat → FieldType := fun k => match k with
  | _ => .int
abbrev wsJ90 : List Cond := u_ws RJ9 TJ9 0
theorem nmJ9 : ∀ a, a < 0 → ∀ b, b < 0 → a ≠ b → (TJ9 a).2.1 ≠ (TJ9 b).2.1 := by decide +kernel
theorem tyJ9_ok : ∀ k, k < 0 → parseFieldDescriptor (TJ9 k).2.2.1 = some (tyJ9 k) := by decide +kernel
abbrev cJ9_max_7cf53 : ByteArray := prog_10_method_65_code
def yJ9_max_7cf53 : MethodName := ⟨RJ9, "max", "(II)I"⟩
abbrev cJ9_min_7cf53 : ByteArray := prog_10_method_69_code
def yJ9_min_7cf53 : MethodName := ⟨RJ9, "min", "(II)I"⟩
def RJ10 : String := "java/lang/System"
def TJ10 : u_T := fun k => match k with
  | _ => ("", "", "", false)
def tyJ10 : Nat → FieldType := fun k => match k with
  | _ => .int
abbrev wsJ100 : List Cond := u_ws RJ10 TJ10 0
theorem nmJ10 : ∀ a, a < 0 → ∀ b, b < 0 → a ≠ b → (TJ10 a).2.1 ≠ (TJ10 b).2.1 := by decide +kernel
theorem tyJ10_ok : ∀ k, k < 0 → parseFieldDescriptor (TJ10 k).2.2.1 = some (tyJ10 k) := by decide +kernel
def RJ7 : String := "java/util/Arrays"
def TJ7 : u_T := fun k => match k with
  | _ => ("", "", "", false)
def tyJ7 : Nat → FieldType := fun k => match k with
  | _ => .int
abbrev wsJ70 : List Cond := u_ws RJ7 TJ7 0
theorem nmJ7 : ∀ a, a < 0 → ∀ b, b < 0 → a ≠ b → (TJ7 a).2.1 ≠ (TJ7 b).2.1 := by decide +kernel
theorem tyJ7_ok : ∀ k, k < 0 → parseFieldDescriptor (TJ7 k).2.2.1 = some (tyJ7 k) := by decide +kernel
abbrev cJ7_fill_53178 : ByteArray := prog_12_method_103_code
def yJ7_fill_53178 : MethodName := ⟨RJ7, "fill", "([II)V"⟩
def RL : String := "NeighborBookLaw"
abbrev cL_law : ByteArray := code
def yL_law : MethodName := ⟨RL, "law", "([I)Z"⟩
def wsJ7_fill_53178 : List Cond := .code yJ7_fill_53178 cJ7_fill_53178 4 none :: ([])
def wsX0_clear : List Cond := .code yX0_clear cX0_clear 1 none :: ([.fieldLink RX0 9 "NeighborBook$Contents" "sizes" "[I", .methodLink RX0 26 yJ7_fill_53178, .static yJ7_fill_53178, .initialized RJ7, .code yJ7_fill_53178 cJ7_fill_53178 4 none] ++ wsX00)
def wsX0_init : List Cond := .code yX0_init cX0_init 1 none :: ([.methodLink RX0 3 objectInit, .instanceMethod objectInit, .code objectInit ⟨#[0xb1]⟩ 1 none, .arrayClass .int, .fieldLink RX0 9 "NeighborBook$Contents" "sizes" "[I", .arrayClass .byte, .fieldLink RX0 15 "NeighborBook$Contents" "bytes" "[B", .methodLink RX0 19 yX0_clear, .instanceMethod yX0_clear, .selects RX0 yX0_clear yX0_clear, .initialized RX0, .code yX0_clear cX0_clear 1 none, .methodLink RX0 26 yJ7_fill_53178, .static yJ7_fill_53178, .initialized RJ7, .code yJ7_fill_53178 cJ7_fill_53178 4 none] ++ wsX00)
def wsX6_isMore : List Cond := .code yX6_isMore cX6_isMore 1 (some .boolean) :: ([])
def wsX0_isKept : List Cond := .code yX0_isKept cX0_isKept 1 (some .boolean) :: ([.static yX6_isMore, .initialized RX6, .code yX6_isMore cX6_isMore 1 (some .boolean)])
def wsX0_startOf : List Cond := .code yX0_startOf cX0_startOf 1 (some .int) :: ([])
def wsX0_keep : List Cond := .code yX0_keep cX0_keep 5 none :: ([.fieldLink RX0 15 "NeighborBook$Contents" "bytes" "[B", .methodLink RX0 39 arraycopyName, .native arraycopyName, .static arraycopyName, .initialized "java/lang/System", .fieldLink RX0 9 "NeighborBook$Contents" "sizes" "[I", .methodLink RX0 32 yX0_isKept, .static yX0_isKept, .initialized RX0, .code yX0_isKept cX0_isKept 1 (some .boolean), .static yX6_isMore, .initialized RX6, .code yX6_isMore cX6_isMore 1 (some .boolean), .methodLink RX0 35 yX0_startOf, .static yX0_startOf, .code yX0_startOf cX0_startOf 1 (some .int)] ++ wsX00)
def wsX0_sizeOf : List Cond := .code yX0_sizeOf cX0_sizeOf 2 (some .int) :: ([.fieldLink RX0 9 "NeighborBook$Contents" "sizes" "[I"] ++ wsX00)
def wsX0_has : List Cond := .code yX0_has cX0_has 2 (some .boolean) :: ([.methodLink RX0 48 yX0_sizeOf, .instanceMethod yX0_sizeOf, .selects RX0 yX0_sizeOf yX0_sizeOf, .initialized RX0, .code yX0_sizeOf cX0_sizeOf 2 (some .int), .fieldLink RX0 9 "NeighborBook$Contents" "sizes" "[I"] ++ wsX00)
def wsX0_drop : List Cond := .code yX0_drop cX0_drop 2 none :: ([.fieldLink RX0 9 "NeighborBook$Contents" "sizes" "[I", .methodLink RX0 45 yX0_has, .instanceMethod yX0_has, .selects RX0 yX0_has yX0_has, .initialized RX0, .code yX0_has cX0_has 2 (some .boolean), .methodLink RX0 48 yX0_sizeOf, .instanceMethod yX0_sizeOf, .selects RX0 yX0_sizeOf yX0_sizeOf, .code yX0_sizeOf cX0_sizeOf 2 (some .int)] ++ wsX00)
def wsX0_byteAt : List Cond := .code yX0_byteAt cX0_byteAt 3 (some .int) :: ([.fieldLink RX0 15 "NeighborBook$Contents" "bytes" "[B", .methodLink RX0 48 yX0_sizeOf, .instanceMethod yX0_sizeOf, .selects RX0 yX0_sizeOf yX0_sizeOf, .initialized RX0, .code yX0_sizeOf cX0_sizeOf 2 (some .int), .fieldLink RX0 9 "NeighborBook$Contents" "sizes" "[I", .methodLink RX0 35 yX0_startOf, .static yX0_startOf, .code yX0_startOf cX0_startOf 1 (some .int)] ++ wsX00)
def wsX0_isSame : List Cond := .code yX0_isSame cX0_isSame 7 (some .boolean) :: ([.fieldLink RX0 15 "NeighborBook$Contents" "bytes" "[B", .methodLink RX0 48 yX0_sizeOf, .instanceMethod yX0_sizeOf, .selects RX0 yX0_sizeOf yX0_sizeOf, .initialized RX0, .code yX0_sizeOf cX0_sizeOf 2 (some .int), .fieldLink RX0 9 "NeighborBook$Contents" "sizes" "[I", .methodLink RX0 35 yX0_startOf, .static yX0_startOf, .code yX0_startOf cX0_startOf 1 (some .int)] ++ wsX00)
def wsX0_isSameStation : List Cond := .code yX0_isSameStation cX0_isSameStation 2 (some .boolean) :: ([.fieldLink RX0 15 "NeighborBook$Contents" "bytes" "[B", .methodLink RX0 35 yX0_startOf, .static yX0_startOf, .initialized RX0, .code yX0_startOf cX0_startOf 1 (some .int), .methodLink RX0 48 yX0_sizeOf, .instanceMethod yX0_sizeOf, .selects RX0 yX0_sizeOf yX0_sizeOf, .code yX0_sizeOf cX0_sizeOf 2 (some .int), .fieldLink RX0 9 "NeighborBook$Contents" "sizes" "[I", .methodLink RX0 51 yX0_isSame, .instanceMethod yX0_isSame, .selects RX0 yX0_isSame yX0_isSame, .code yX0_isSame cX0_isSame 7 (some .boolean)] ++ wsX00)
def wsX0_typeBits : List Cond := .code yX0_typeBits cX0_typeBits 3 (some .int) :: ([.methodLink RX0 45 yX0_has, .instanceMethod yX0_has, .selects RX0 yX0_has yX0_has, .initialized RX0, .code yX0_has cX0_has 2 (some .boolean), .methodLink RX0 48 yX0_sizeOf, .instanceMethod yX0_sizeOf, .selects RX0 yX0_sizeOf yX0_sizeOf, .code yX0_sizeOf cX0_sizeOf 2 (some .int), .fieldLink RX0 9 "NeighborBook$Contents" "sizes" "[I"] ++ wsX00)
def wsX1_init : List Cond := .code yX1_init cX1_init 1 none :: ([.methodLink RX1 3 objectInit, .instanceMethod objectInit, .code objectInit ⟨#[0xb1]⟩ 1 none, .classLink RX1 9 RX0, .instantiable RX0 2, .initialized RX0, .fieldLink RX1 12 "NeighborBook$FrameReader" "contents" "LNeighborBook$Contents;", .methodLink RX1 11 yX0_init, .instanceMethod yX0_init, .code yX0_init cX0_init 1 none, .methodLink RX0 3 objectInit, .arrayClass .int, .fieldLink RX0 9 "NeighborBook$Contents" "sizes" "[I", .arrayClass .byte, .fieldLink RX0 15 "NeighborBook$Contents" "bytes" "[B", .methodLink RX0 19 yX0_clear, .instanceMethod yX0_clear, .selects RX0 yX0_clear yX0_clear, .code yX0_clear cX0_clear 1 none, .methodLink RX0 26 yJ7_fill_53178, .static yJ7_fill_53178, .initialized RJ7, .code yJ7_fill_53178 cJ7_fill_53178 4 none] ++ wsX00 ++ wsX10)
def wsX1_contents : List Cond := .code yX1_contents cX1_contents 1 (some (.object "NeighborBook$Contents")) :: ([.fieldLink RX1 12 "NeighborBook$FrameReader" "contents" "LNeighborBook$Contents;"] ++ wsX10)
def wsX1_held : List Cond := .code yX1_held cX1_held 1 (some .int) :: ([.fieldLink RX1 18 "NeighborBook$FrameReader" "held" "I"] ++ wsX10)
def wsX1_useNext : List Cond := .code yX1_useNext cX1_useNext 2 none :: ([.fieldLink RX1 12 "NeighborBook$FrameReader" "contents" "LNeighborBook$Contents;"] ++ wsX10)
def wsX1_pairAt : List Cond := .code yX1_pairAt cX1_pairAt 2 (some .int) :: ([])
def wsX1_isOutOfOrder : List Cond := .code yX1_isOutOfOrder cX1_isOutOfOrder 2 (some .boolean) :: ([])
def wsX1_isWrongSize : List Cond := .code yX1_isWrongSize cX1_isWrongSize 2 (some .boolean) :: ([.static yX6_isMore, .initialized RX6, .code yX6_isMore cX6_isMore 1 (some .boolean)])
def wsX1_faultOfPart : List Cond := .code yX1_faultOfPart cX1_faultOfPart 5 (some .int) :: ([.fieldLink RX1 12 "NeighborBook$FrameReader" "contents" "LNeighborBook$Contents;", .methodLink RX1 37 yX1_isOutOfOrder, .static yX1_isOutOfOrder, .initialized RX1, .code yX1_isOutOfOrder cX1_isOutOfOrder 2 (some .boolean), .methodLink RX1 41 yX1_isWrongSize, .static yX1_isWrongSize, .code yX1_isWrongSize cX1_isWrongSize 2 (some .boolean), .static yX6_isMore, .initialized RX6, .code yX6_isMore cX6_isMore 1 (some .boolean), .methodLink RX1 48 yX0_has, .instanceMethod yX0_has, .selects RX0 yX0_has yX0_has, .initialized RX0, .code yX0_has cX0_has 2 (some .boolean), .methodLink RX0 48 yX0_sizeOf, .instanceMethod yX0_sizeOf, .selects RX0 yX0_sizeOf yX0_sizeOf, .code yX0_sizeOf cX0_sizeOf 2 (some .int), .fieldLink RX0 9 "NeighborBook$Contents" "sizes" "[I"] ++ wsX10 ++ wsX00)
def wsX1_takePart_r1 : List Cond := [Cond.fieldLink RX1 18 "NeighborBook$FrameReader" "held" "I", Cond.fieldLink RX1 12 "NeighborBook$FrameReader" "contents" "LNeighborBook$Contents;", Cond.methodLink RX1 25 yX1_pairAt, Cond.static yX1_pairAt, Cond.initialized RX1, Cond.code yX1_pairAt cX1_pairAt 2 (some .int), Cond.methodLink RX1 51 yX0_keep, Cond.instanceMethod yX0_keep, Cond.selects RX0 yX0_keep yX0_keep, Cond.initialized RX0, Cond.code yX0_keep cX0_keep 5 none, Cond.fieldLink RX0 15 "NeighborBook$Contents" "bytes" "[B", Cond.methodLink RX0 39 arraycopyName, Cond.native arraycopyName, Cond.static arraycopyName, Cond.initialized "java/lang/System", Cond.fieldLink RX0 9 "NeighborBook$Contents" "sizes" "[I", Cond.methodLink RX0 32 yX0_isKept, Cond.static yX0_isKept, Cond.code yX0_isKept cX0_isKept 1 (some .boolean), Cond.static yX6_isMore, Cond.initialized RX6, Cond.code yX6_isMore cX6_isMore 1 (some .boolean), Cond.methodLink RX0 35 yX0_startOf]
def wsX1_takePart_r2 : List Cond := [Cond.static yX0_startOf, Cond.code yX0_startOf cX0_startOf 1 (some .int)]
def wsX1_takePart : List Cond := .code yX1_takePart cX1_takePart 5 none :: ((wsX1_takePart_r1 ++ wsX1_takePart_r2) ++ wsX10 ++ wsX00)
def wsX1_read_r1 : List Cond := [Cond.fieldLink RX1 12 "NeighborBook$FrameReader" "contents" "LNeighborBook$Contents;", Cond.methodLink RX1 22 yX0_clear, Cond.instanceMethod yX0_clear, Cond.selects RX0 yX0_clear yX0_clear, Cond.initialized RX0, Cond.code yX0_clear cX0_clear 1 none, Cond.fieldLink RX0 9 "NeighborBook$Contents" "sizes" "[I", Cond.methodLink RX0 26 yJ7_fill_53178, Cond.static yJ7_fill_53178, Cond.initialized RJ7, Cond.code yJ7_fill_53178 cJ7_fill_53178 4 none, Cond.methodLink RX1 25 yX1_pairAt, Cond.static yX1_pairAt, Cond.initialized RX1, Cond.code yX1_pairAt cX1_pairAt 2 (some .int), Cond.methodLink RX1 29 yX1_faultOfPart, Cond.instanceMethod yX1_faultOfPart, Cond.selects RX1 yX1_faultOfPart yX1_faultOfPart, Cond.code yX1_faultOfPart cX1_faultOfPart 5 (some .int), Cond.methodLink RX1 37 yX1_isOutOfOrder, Cond.static yX1_isOutOfOrder, Cond.code yX1_isOutOfOrder cX1_isOutOfOrder 2 (some .boolean), Cond.methodLink RX1 41 yX1_isWrongSize, Cond.static yX1_isWrongSize]
def wsX1_read_r2 : List Cond := [Cond.code yX1_isWrongSize cX1_isWrongSize 2 (some .boolean), Cond.static yX6_isMore, Cond.initialized RX6, Cond.code yX6_isMore cX6_isMore 1 (some .boolean), Cond.methodLink RX1 48 yX0_has, Cond.instanceMethod yX0_has, Cond.selects RX0 yX0_has yX0_has, Cond.code yX0_has cX0_has 2 (some .boolean), Cond.methodLink RX0 48 yX0_sizeOf, Cond.instanceMethod yX0_sizeOf, Cond.selects RX0 yX0_sizeOf yX0_sizeOf, Cond.code yX0_sizeOf cX0_sizeOf 2 (some .int), Cond.methodLink RX1 33 yX1_takePart, Cond.instanceMethod yX1_takePart, Cond.selects RX1 yX1_takePart yX1_takePart, Cond.code yX1_takePart cX1_takePart 5 none, Cond.fieldLink RX1 18 "NeighborBook$FrameReader" "held" "I", Cond.methodLink RX1 51 yX0_keep, Cond.instanceMethod yX0_keep, Cond.selects RX0 yX0_keep yX0_keep, Cond.code yX0_keep cX0_keep 5 none, Cond.fieldLink RX0 15 "NeighborBook$Contents" "bytes" "[B", Cond.methodLink RX0 39 arraycopyName, Cond.native arraycopyName]
def wsX1_read_r3 : List Cond := [Cond.static arraycopyName, Cond.initialized "java/lang/System", Cond.methodLink RX0 32 yX0_isKept, Cond.static yX0_isKept, Cond.code yX0_isKept cX0_isKept 1 (some .boolean), Cond.methodLink RX0 35 yX0_startOf, Cond.static yX0_startOf, Cond.code yX0_startOf cX0_startOf 1 (some .int)]
def wsX1_read : List Cond := .code yX1_read cX1_read 10 (some .int) :: ((wsX1_read_r1 ++ (wsX1_read_r2 ++ wsX1_read_r3)) ++ wsX10 ++ wsX00)
def wsX2_init : List Cond := .code yX2_init cX2_init 1 none :: ([.methodLink RX2 3 objectInit, .instanceMethod objectInit, .code objectInit ⟨#[0xb1]⟩ 1 none, .classLink RX2 9 RX0, .instantiable RX0 2, .initialized RX0, .fieldLink RX2 12 "NeighborBook$Neighbor" "contents" "LNeighborBook$Contents;", .methodLink RX2 11 yX0_init, .instanceMethod yX0_init, .code yX0_init cX0_init 1 none, .methodLink RX0 3 objectInit, .arrayClass .int, .fieldLink RX0 9 "NeighborBook$Contents" "sizes" "[I", .arrayClass .byte, .fieldLink RX0 15 "NeighborBook$Contents" "bytes" "[B", .methodLink RX0 19 yX0_clear, .instanceMethod yX0_clear, .selects RX0 yX0_clear yX0_clear, .code yX0_clear cX0_clear 1 none, .methodLink RX0 26 yJ7_fill_53178, .static yJ7_fill_53178, .initialized RJ7, .code yJ7_fill_53178 cJ7_fill_53178 4 none] ++ wsX00 ++ wsX20)
def wsX2_contents : List Cond := .code yX2_contents cX2_contents 1 (some (.object "NeighborBook$Contents")) :: ([.fieldLink RX2 12 "NeighborBook$Neighbor" "contents" "LNeighborBook$Contents;"] ++ wsX20)
def wsX2_portOf : List Cond := .code yX2_portOf cX2_portOf 1 (some .int) :: ([.fieldLink RX2 18 "NeighborBook$Neighbor" "port" "I"] ++ wsX20)
def wsX2_begin : List Cond := .code yX2_begin cX2_begin 2 none :: ([.fieldLink RX2 18 "NeighborBook$Neighbor" "port" "I", .fieldLink RX2 22 "NeighborBook$Neighbor" "frames" "I"] ++ wsX20)
def wsX2_renew : List Cond := .code yX2_renew cX2_renew 4 (some (.object "NeighborBook$Contents")) :: ([.fieldLink RX2 12 "NeighborBook$Neighbor" "contents" "LNeighborBook$Contents;", .fieldLink RX2 25 "NeighborBook$Neighbor" "ticksLeft" "I", .fieldLink RX2 22 "NeighborBook$Neighbor" "frames" "I"] ++ wsX20)
def wsX2_passTick : List Cond := .code yX2_passTick cX2_passTick 1 (some .boolean) :: ([.fieldLink RX2 25 "NeighborBook$Neighbor" "ticksLeft" "I"] ++ wsX20)
def wsX2_tellAbout : List Cond := .code yX2_tellAbout cX2_tellAbout 2 (some .int) :: ([.fieldLink RX2 18 "NeighborBook$Neighbor" "port" "I", .fieldLink RX2 25 "NeighborBook$Neighbor" "ticksLeft" "I", .fieldLink RX2 22 "NeighborBook$Neighbor" "frames" "I", .fieldLink RX2 12 "NeighborBook$Neighbor" "contents" "LNeighborBook$Contents;", .methodLink RX2 28 yX0_typeBits, .instanceMethod yX0_typeBits, .selects RX0 yX0_typeBits yX0_typeBits, .initialized RX0, .code yX0_typeBits cX0_typeBits 3 (some .int), .methodLink RX0 45 yX0_has, .instanceMethod yX0_has, .selects RX0 yX0_has yX0_has, .code yX0_has cX0_has 2 (some .boolean), .methodLink RX0 48 yX0_sizeOf, .instanceMethod yX0_sizeOf, .selects RX0 yX0_sizeOf yX0_sizeOf, .code yX0_sizeOf cX0_sizeOf 2 (some .int), .fieldLink RX0 9 "NeighborBook$Contents" "sizes" "[I"] ++ wsX20 ++ wsX00)
def wsX3_init_r1 : List Cond := [Cond.methodLink RX3 3 objectInit, Cond.instanceMethod objectInit, Cond.code objectInit ⟨#[0xb1]⟩ 1 none, Cond.classLink RX3 9 RX2, Cond.fieldLink RX3 11 "NeighborBook$Neighbors" "rows" "[LNeighborBook$Neighbor;", Cond.instantiable RX2 4, Cond.initialized RX2, Cond.instanceMethod yX2_init, Cond.code yX2_init cX2_init 1 none, Cond.methodLink RX2 3 objectInit, Cond.classLink RX2 9 RX0, Cond.instantiable RX0 2, Cond.initialized RX0, Cond.fieldLink RX2 12 "NeighborBook$Neighbor" "contents" "LNeighborBook$Contents;", Cond.methodLink RX2 11 yX0_init, Cond.instanceMethod yX0_init, Cond.code yX0_init cX0_init 1 none, Cond.methodLink RX0 3 objectInit, Cond.arrayClass .int, Cond.fieldLink RX0 9 "NeighborBook$Contents" "sizes" "[I", Cond.arrayClass .byte, Cond.fieldLink RX0 15 "NeighborBook$Contents" "bytes" "[B", Cond.methodLink RX0 19 yX0_clear, Cond.instanceMethod yX0_clear]
def wsX3_init_r2 : List Cond := [Cond.selects RX0 yX0_clear yX0_clear, Cond.code yX0_clear cX0_clear 1 none, Cond.methodLink RX0 26 yJ7_fill_53178, Cond.static yJ7_fill_53178, Cond.initialized RJ7, Cond.code yJ7_fill_53178 cJ7_fill_53178 4 none]
def wsX3_init : List Cond := .code yX3_init cX3_init 2 none :: ((wsX3_init_r1 ++ wsX3_init_r2) ++ wsX30 ++ wsX20 ++ wsX00)
def wsX3_size : List Cond := .code yX3_size cX3_size 1 (some .int) :: ([.fieldLink RX3 18 "NeighborBook$Neighbors" "size" "I"] ++ wsX30)
def wsX3_has : List Cond := .code yX3_has cX3_has 2 (some .boolean) :: ([.fieldLink RX3 18 "NeighborBook$Neighbors" "size" "I"] ++ wsX30)
def wsX3_at : List Cond := .code yX3_at cX3_at 2 (some (.object "NeighborBook$Neighbor")) :: ([.fieldLink RX3 11 "NeighborBook$Neighbors" "rows" "[LNeighborBook$Neighbor;"] ++ wsX30)
def wsX3_sizeAt : List Cond := .code yX3_sizeAt cX3_sizeAt 4 (some .int) :: ([.fieldLink RX3 18 "NeighborBook$Neighbors" "size" "I", .fieldLink RX3 11 "NeighborBook$Neighbors" "rows" "[LNeighborBook$Neighbor;", .methodLink RX3 22 yX2_portOf, .instanceMethod yX2_portOf, .selects RX2 yX2_portOf yX2_portOf, .initialized RX2, .code yX2_portOf cX2_portOf 1 (some .int), .fieldLink RX2 18 "NeighborBook$Neighbor" "port" "I"] ++ wsX30 ++ wsX20)
def wsX3_find_r1 : List Cond := [Cond.fieldLink RX3 18 "NeighborBook$Neighbors" "size" "I", Cond.fieldLink RX3 11 "NeighborBook$Neighbors" "rows" "[LNeighborBook$Neighbor;", Cond.methodLink RX3 22 yX2_portOf, Cond.instanceMethod yX2_portOf, Cond.selects RX2 yX2_portOf yX2_portOf, Cond.initialized RX2, Cond.code yX2_portOf cX2_portOf 1 (some .int), Cond.fieldLink RX2 18 "NeighborBook$Neighbor" "port" "I", Cond.methodLink RX3 26 yX2_contents, Cond.instanceMethod yX2_contents, Cond.selects RX2 yX2_contents yX2_contents, Cond.code yX2_contents cX2_contents 1 (some (.object "NeighborBook$Contents")), Cond.fieldLink RX2 12 "NeighborBook$Neighbor" "contents" "LNeighborBook$Contents;", Cond.methodLink RX3 30 yX0_isSameStation, Cond.instanceMethod yX0_isSameStation, Cond.selects RX0 yX0_isSameStation yX0_isSameStation, Cond.initialized RX0, Cond.code yX0_isSameStation cX0_isSameStation 2 (some .boolean), Cond.fieldLink RX0 15 "NeighborBook$Contents" "bytes" "[B", Cond.methodLink RX0 35 yX0_startOf, Cond.static yX0_startOf, Cond.code yX0_startOf cX0_startOf 1 (some .int), Cond.methodLink RX0 48 yX0_sizeOf, Cond.instanceMethod yX0_sizeOf]
def wsX3_find_r2 : List Cond := [Cond.selects RX0 yX0_sizeOf yX0_sizeOf, Cond.code yX0_sizeOf cX0_sizeOf 2 (some .int), Cond.fieldLink RX0 9 "NeighborBook$Contents" "sizes" "[I", Cond.methodLink RX0 51 yX0_isSame, Cond.instanceMethod yX0_isSame, Cond.selects RX0 yX0_isSame yX0_isSame, Cond.code yX0_isSame cX0_isSame 7 (some .boolean)]
def wsX3_find : List Cond := .code yX3_find cX3_find 4 (some .int) :: ((wsX3_find_r1 ++ wsX3_find_r2) ++ wsX30 ++ wsX20 ++ wsX00)
def wsX3_add : List Cond := .code yX3_add cX3_add 3 (some .int) :: ([.fieldLink RX3 18 "NeighborBook$Neighbors" "size" "I", .fieldLink RX3 11 "NeighborBook$Neighbors" "rows" "[LNeighborBook$Neighbor;", .methodLink RX3 36 yX2_begin, .instanceMethod yX2_begin, .selects RX2 yX2_begin yX2_begin, .initialized RX2, .code yX2_begin cX2_begin 2 none, .fieldLink RX2 18 "NeighborBook$Neighbor" "port" "I", .fieldLink RX2 22 "NeighborBook$Neighbor" "frames" "I"] ++ wsX30 ++ wsX20)
def wsX3_forget : List Cond := .code yX3_forget cX3_forget 4 none :: ([.fieldLink RX3 11 "NeighborBook$Neighbors" "rows" "[LNeighborBook$Neighbor;", .fieldLink RX3 18 "NeighborBook$Neighbors" "size" "I", .methodLink RX3 40 yX3_has, .instanceMethod yX3_has, .selects RX3 yX3_has yX3_has, .initialized RX3, .code yX3_has cX3_has 2 (some .boolean)] ++ wsX30)
def wsX3_forgetAllAt : List Cond := .code yX3_forgetAllAt cX3_forgetAllAt 3 none :: ([.fieldLink RX3 18 "NeighborBook$Neighbors" "size" "I", .fieldLink RX3 11 "NeighborBook$Neighbors" "rows" "[LNeighborBook$Neighbor;", .methodLink RX3 22 yX2_portOf, .instanceMethod yX2_portOf, .selects RX2 yX2_portOf yX2_portOf, .initialized RX2, .code yX2_portOf cX2_portOf 1 (some .int), .fieldLink RX2 18 "NeighborBook$Neighbor" "port" "I", .methodLink RX3 44 yX3_forget, .instanceMethod yX3_forget, .selects RX3 yX3_forget yX3_forget, .initialized RX3, .code yX3_forget cX3_forget 4 none, .methodLink RX3 40 yX3_has, .instanceMethod yX3_has, .selects RX3 yX3_has yX3_has, .code yX3_has cX3_has 2 (some .boolean)] ++ wsX30 ++ wsX20)
def wsX3_passTick : List Cond := .code yX3_passTick cX3_passTick 2 none :: ([.fieldLink RX3 18 "NeighborBook$Neighbors" "size" "I", .fieldLink RX3 11 "NeighborBook$Neighbors" "rows" "[LNeighborBook$Neighbor;", .methodLink RX3 47 yX2_passTick, .instanceMethod yX2_passTick, .selects RX2 yX2_passTick yX2_passTick, .initialized RX2, .code yX2_passTick cX2_passTick 1 (some .boolean), .fieldLink RX2 25 "NeighborBook$Neighbor" "ticksLeft" "I", .methodLink RX3 44 yX3_forget, .instanceMethod yX3_forget, .selects RX3 yX3_forget yX3_forget, .initialized RX3, .code yX3_forget cX3_forget 4 none, .methodLink RX3 40 yX3_has, .instanceMethod yX3_has, .selects RX3 yX3_has yX3_has, .code yX3_has cX3_has 2 (some .boolean)] ++ wsX30 ++ wsX20)
def wsX4_init : List Cond := .code yX4_init cX4_init 1 none :: ([.methodLink RX4 3 objectInit, .instanceMethod objectInit, .code objectInit ⟨#[0xb1]⟩ 1 none])
def wsX4_isUp : List Cond := .code yX4_isUp cX4_isUp 1 (some .boolean) :: ([.fieldLink RX4 9 "NeighborBook$Port" "up" "Z"] ++ wsX40)
def wsX4_goUp : List Cond := .code yX4_goUp cX4_goUp 2 none :: ([.fieldLink RX4 9 "NeighborBook$Port" "up" "Z", .fieldLink RX4 15 "NeighborBook$Port" "quickLeft" "I", .fieldLink RX4 19 "NeighborBook$Port" "waitLeft" "I"] ++ wsX40)
def wsX4_goDown : List Cond := .code yX4_goDown cX4_goDown 1 none :: ([.fieldLink RX4 9 "NeighborBook$Port" "up" "Z", .fieldLink RX4 19 "NeighborBook$Port" "waitLeft" "I", .fieldLink RX4 22 "NeighborBook$Port" "framesSent" "I"] ++ wsX40)
def wsX4_hurry : List Cond := .code yX4_hurry cX4_hurry 1 none :: ([.fieldLink RX4 9 "NeighborBook$Port" "up" "Z", .fieldLink RX4 19 "NeighborBook$Port" "waitLeft" "I"] ++ wsX40)
def wsX4_greet : List Cond := .code yX4_greet cX4_greet 2 none :: ([.fieldLink RX4 15 "NeighborBook$Port" "quickLeft" "I", .methodLink RX4 25 Lib.Math.max.name, .static Lib.Math.max.name, .initialized "java/lang/Math", .code Lib.Math.max.name Lib.Math.max.code 2 (some .int), .fieldLink RX4 19 "NeighborBook$Port" "waitLeft" "I"] ++ wsX40)
def wsX4_noteHeard : List Cond := .code yX4_noteHeard cX4_noteHeard 2 none :: ([.fieldLink RX4 31 "NeighborBook$Port" "heardWell" "I", .fieldLink RX4 34 "NeighborBook$Port" "heardFaulty" "I"] ++ wsX40)
def wsX4_passTick : List Cond := .code yX4_passTick cX4_passTick 2 (some .boolean) :: ([.fieldLink RX4 9 "NeighborBook$Port" "up" "Z", .fieldLink RX4 19 "NeighborBook$Port" "waitLeft" "I", .fieldLink RX4 22 "NeighborBook$Port" "framesSent" "I", .fieldLink RX4 15 "NeighborBook$Port" "quickLeft" "I"] ++ wsX40)
def wsX4_tellAbout : List Cond := .code yX4_tellAbout cX4_tellAbout 2 (some .int) :: ([.fieldLink RX4 9 "NeighborBook$Port" "up" "Z", .fieldLink RX4 22 "NeighborBook$Port" "framesSent" "I", .fieldLink RX4 31 "NeighborBook$Port" "heardWell" "I", .fieldLink RX4 34 "NeighborBook$Port" "heardFaulty" "I", .fieldLink RX4 19 "NeighborBook$Port" "waitLeft" "I", .fieldLink RX4 15 "NeighborBook$Port" "quickLeft" "I"] ++ wsX40)
def wsX5_init : List Cond := .code yX5_init cX5_init 1 none :: ([.methodLink RX5 3 objectInit, .instanceMethod objectInit, .code objectInit ⟨#[0xb1]⟩ 1 none, .arrayClass .byte, .fieldLink RX5 9 "NeighborBook$SentFrame" "bytes" "[B", .fieldLink RX5 15 "NeighborBook$SentFrame" "port" "I"] ++ wsX50)
def wsX5_length : List Cond := .code yX5_length cX5_length 1 (some .int) :: ([.fieldLink RX5 19 "NeighborBook$SentFrame" "length" "I"] ++ wsX50)
def wsX5_portOf : List Cond := .code yX5_portOf cX5_portOf 1 (some .int) :: ([.fieldLink RX5 15 "NeighborBook$SentFrame" "port" "I"] ++ wsX50)
def wsX5_byteAt : List Cond := .code yX5_byteAt cX5_byteAt 2 (some .int) :: ([.fieldLink RX5 19 "NeighborBook$SentFrame" "length" "I", .fieldLink RX5 9 "NeighborBook$SentFrame" "bytes" "[B"] ++ wsX50)
def wsX5_putByte : List Cond := .code yX5_putByte cX5_putByte 2 none :: ([.fieldLink RX5 19 "NeighborBook$SentFrame" "length" "I", .fieldLink RX5 9 "NeighborBook$SentFrame" "bytes" "[B"] ++ wsX50)
def wsX5_putHead : List Cond := .code yX5_putHead cX5_putHead 4 none :: ([.methodLink RX5 36 yX5_putByte, .instanceMethod yX5_putByte, .selects RX5 yX5_putByte yX5_putByte, .initialized RX5, .code yX5_putByte cX5_putByte 2 none, .fieldLink RX5 19 "NeighborBook$SentFrame" "length" "I", .fieldLink RX5 9 "NeighborBook$SentFrame" "bytes" "[B"] ++ wsX50)
def wsX5_putContent : List Cond := .code yX5_putContent cX5_putContent 5 none :: ([.methodLink RX5 22 yX0_sizeOf, .instanceMethod yX0_sizeOf, .selects RX0 yX0_sizeOf yX0_sizeOf, .initialized RX0, .code yX0_sizeOf cX0_sizeOf 2 (some .int), .fieldLink RX0 9 "NeighborBook$Contents" "sizes" "[I", .methodLink RX5 44 yX0_byteAt, .instanceMethod yX0_byteAt, .selects RX0 yX0_byteAt yX0_byteAt, .code yX0_byteAt cX0_byteAt 3 (some .int), .fieldLink RX0 15 "NeighborBook$Contents" "bytes" "[B", .methodLink RX0 48 yX0_sizeOf, .methodLink RX0 35 yX0_startOf, .static yX0_startOf, .code yX0_startOf cX0_startOf 1 (some .int), .methodLink RX5 36 yX5_putByte, .instanceMethod yX5_putByte, .selects RX5 yX5_putByte yX5_putByte, .initialized RX5, .code yX5_putByte cX5_putByte 2 none, .fieldLink RX5 19 "NeighborBook$SentFrame" "length" "I", .fieldLink RX5 9 "NeighborBook$SentFrame" "bytes" "[B"] ++ wsX00 ++ wsX50)
def wsX5_write_r1 : List Cond := [Cond.fieldLink RX5 15 "NeighborBook$SentFrame" "port" "I", Cond.fieldLink RX5 19 "NeighborBook$SentFrame" "length" "I", Cond.methodLink RX5 22 yX0_sizeOf, Cond.instanceMethod yX0_sizeOf, Cond.selects RX0 yX0_sizeOf yX0_sizeOf, Cond.initialized RX0, Cond.code yX0_sizeOf cX0_sizeOf 2 (some .int), Cond.fieldLink RX0 9 "NeighborBook$Contents" "sizes" "[I", Cond.methodLink RX5 28 yX5_putHead, Cond.instanceMethod yX5_putHead, Cond.selects RX5 yX5_putHead yX5_putHead, Cond.initialized RX5, Cond.code yX5_putHead cX5_putHead 4 none, Cond.methodLink RX5 36 yX5_putByte, Cond.instanceMethod yX5_putByte, Cond.selects RX5 yX5_putByte yX5_putByte, Cond.code yX5_putByte cX5_putByte 2 none, Cond.fieldLink RX5 9 "NeighborBook$SentFrame" "bytes" "[B", Cond.methodLink RX5 32 yX5_putContent, Cond.instanceMethod yX5_putContent, Cond.selects RX5 yX5_putContent yX5_putContent, Cond.code yX5_putContent cX5_putContent 5 none, Cond.methodLink RX5 44 yX0_byteAt, Cond.instanceMethod yX0_byteAt]
def wsX5_write_r2 : List Cond := [Cond.selects RX0 yX0_byteAt yX0_byteAt, Cond.code yX0_byteAt cX0_byteAt 3 (some .int), Cond.fieldLink RX0 15 "NeighborBook$Contents" "bytes" "[B", Cond.methodLink RX0 48 yX0_sizeOf, Cond.methodLink RX0 35 yX0_startOf, Cond.static yX0_startOf, Cond.code yX0_startOf cX0_startOf 1 (some .int), Cond.methodLink RX5 40 yX0_has, Cond.instanceMethod yX0_has, Cond.selects RX0 yX0_has yX0_has, Cond.code yX0_has cX0_has 2 (some .boolean)]
def wsX5_write : List Cond := .code yX5_write cX5_write 5 none :: ((wsX5_write_r1 ++ wsX5_write_r2) ++ wsX50 ++ wsX00)
def wsX6_init_r1 : List Cond := [Cond.methodLink RX6 1 objectInit, Cond.instanceMethod objectInit, Cond.code objectInit ⟨#[0xb1]⟩ 1 none, Cond.arrayClass .byte, Cond.fieldLink RX6 9 "NeighborBook" "typed" "[B", Cond.classLink RX6 13 RX0, Cond.instantiable RX0 2, Cond.initialized RX0, Cond.fieldLink RX6 16 "NeighborBook" "told" "LNeighborBook$Contents;", Cond.classLink RX6 20 RX4, Cond.fieldLink RX6 22 "NeighborBook" "ports" "[LNeighborBook$Port;", Cond.classLink RX6 26 RX3, Cond.instantiable RX3 2, Cond.initialized RX3, Cond.fieldLink RX6 29 "NeighborBook" "known" "LNeighborBook$Neighbors;", Cond.classLink RX6 33 RX1, Cond.instantiable RX1 2, Cond.initialized RX1, Cond.fieldLink RX6 36 "NeighborBook" "reader" "LNeighborBook$FrameReader;", Cond.classLink RX6 40 RX5, Cond.instantiable RX5 3, Cond.initialized RX5, Cond.fieldLink RX6 43 "NeighborBook" "latest" "LNeighborBook$SentFrame;", Cond.fieldLink RX6 47 "NeighborBook" "interval" "I"]
def wsX6_init_r2 : List Cond := [Cond.fieldLink RX6 51 "NeighborBook" "hold" "I", Cond.fieldLink RX6 54 "NeighborBook" "quick" "I", Cond.instantiable RX4 6, Cond.initialized RX4, Cond.fieldLink RX6 58 "NeighborBook" "FIRST_NAME" "[B", Cond.methodLink RX6 15 yX0_init, Cond.instanceMethod yX0_init, Cond.code yX0_init cX0_init 1 none, Cond.methodLink RX0 3 objectInit, Cond.arrayClass .int, Cond.fieldLink RX0 9 "NeighborBook$Contents" "sizes" "[I", Cond.fieldLink RX0 15 "NeighborBook$Contents" "bytes" "[B", Cond.methodLink RX0 19 yX0_clear, Cond.instanceMethod yX0_clear, Cond.selects RX0 yX0_clear yX0_clear, Cond.code yX0_clear cX0_clear 1 none, Cond.methodLink RX0 26 yJ7_fill_53178, Cond.static yJ7_fill_53178, Cond.initialized RJ7, Cond.code yJ7_fill_53178 cJ7_fill_53178 4 none, Cond.methodLink RX6 28 yX3_init, Cond.instanceMethod yX3_init, Cond.code yX3_init cX3_init 2 none, Cond.methodLink RX3 3 objectInit]
def wsX6_init_r3 : List Cond := [Cond.classLink RX3 9 RX2, Cond.fieldLink RX3 11 "NeighborBook$Neighbors" "rows" "[LNeighborBook$Neighbor;", Cond.instantiable RX2 4, Cond.initialized RX2, Cond.instanceMethod yX2_init, Cond.code yX2_init cX2_init 1 none, Cond.methodLink RX2 3 objectInit, Cond.classLink RX2 9 RX0, Cond.fieldLink RX2 12 "NeighborBook$Neighbor" "contents" "LNeighborBook$Contents;", Cond.methodLink RX2 11 yX0_init, Cond.instanceMethod yX1_init, Cond.code yX1_init cX1_init 1 none, Cond.methodLink RX1 3 objectInit, Cond.classLink RX1 9 RX0, Cond.fieldLink RX1 12 "NeighborBook$FrameReader" "contents" "LNeighborBook$Contents;", Cond.methodLink RX1 11 yX0_init, Cond.instanceMethod yX5_init, Cond.code yX5_init cX5_init 1 none, Cond.methodLink RX5 3 objectInit, Cond.fieldLink RX5 9 "NeighborBook$SentFrame" "bytes" "[B", Cond.fieldLink RX5 15 "NeighborBook$SentFrame" "port" "I", Cond.instanceMethod yX4_init, Cond.code yX4_init cX4_init 1 none, Cond.methodLink RX4 3 objectInit]
def wsX6_init_r4 : List Cond := [Cond.methodLink RX6 61 yX0_keep, Cond.instanceMethod yX0_keep, Cond.selects RX0 yX0_keep yX0_keep, Cond.code yX0_keep cX0_keep 5 none, Cond.methodLink RX0 39 arraycopyName, Cond.native arraycopyName, Cond.static arraycopyName, Cond.initialized "java/lang/System", Cond.methodLink RX0 32 yX0_isKept, Cond.static yX0_isKept, Cond.code yX0_isKept cX0_isKept 1 (some .boolean), Cond.static yX6_isMore, Cond.initialized RX6, Cond.code yX6_isMore cX6_isMore 1 (some .boolean), Cond.methodLink RX0 35 yX0_startOf, Cond.static yX0_startOf, Cond.code yX0_startOf cX0_startOf 1 (some .int)]
def wsX6_init : List Cond := .code yX6_init cX6_init 2 none :: ((wsX6_init_r1 ++ (wsX6_init_r2 ++ (wsX6_init_r3 ++ wsX6_init_r4))) ++ wsX60 ++ wsX00 ++ wsX30 ++ wsX10 ++ wsX50 ++ wsX40 ++ wsX20)
def wsX6_type : List Cond := .code yX6_type cX6_type 5 (some .int) :: ([.fieldLink RX6 65 "NeighborBook" "typedCount" "I", .fieldLink RX6 9 "NeighborBook" "typed" "[B"] ++ wsX60)
def wsX6_isTellable : List Cond := .code yX6_isTellable cX6_isTellable 2 (some .boolean) :: ([.methodLink RX6 174 yX6_isMore, .static yX6_isMore, .initialized RX6, .code yX6_isMore cX6_isMore 1 (some .boolean)])
def wsX6_hurryAll : List Cond := .code yX6_hurryAll cX6_hurryAll 2 none :: ([.fieldLink RX6 22 "NeighborBook" "ports" "[LNeighborBook$Port;", .methodLink RX6 188 yX4_hurry, .instanceMethod yX4_hurry, .selects RX4 yX4_hurry yX4_hurry, .initialized RX4, .code yX4_hurry cX4_hurry 1 none, .fieldLink RX4 9 "NeighborBook$Port" "up" "Z", .fieldLink RX4 19 "NeighborBook$Port" "waitLeft" "I"] ++ wsX60 ++ wsX40)
def wsX6_tellNothing_r1 : List Cond := [Cond.fieldLink RX6 16 "NeighborBook" "told" "LNeighborBook$Contents;", Cond.methodLink RX6 177 yX0_has, Cond.instanceMethod yX0_has, Cond.selects RX0 yX0_has yX0_has, Cond.initialized RX0, Cond.code yX0_has cX0_has 2 (some .boolean), Cond.methodLink RX0 48 yX0_sizeOf, Cond.instanceMethod yX0_sizeOf, Cond.selects RX0 yX0_sizeOf yX0_sizeOf, Cond.code yX0_sizeOf cX0_sizeOf 2 (some .int), Cond.fieldLink RX0 9 "NeighborBook$Contents" "sizes" "[I", Cond.methodLink RX6 178 yX0_drop, Cond.instanceMethod yX0_drop, Cond.selects RX0 yX0_drop yX0_drop, Cond.code yX0_drop cX0_drop 2 none, Cond.methodLink RX0 45 yX0_has, Cond.methodLink RX6 181 yX6_hurryAll, Cond.instanceMethod yX6_hurryAll, Cond.selects RX6 yX6_hurryAll yX6_hurryAll, Cond.initialized RX6, Cond.code yX6_hurryAll cX6_hurryAll 2 none, Cond.fieldLink RX6 22 "NeighborBook" "ports" "[LNeighborBook$Port;", Cond.methodLink RX6 188 yX4_hurry, Cond.instanceMethod yX4_hurry]
def wsX6_tellNothing_r2 : List Cond := [Cond.selects RX4 yX4_hurry yX4_hurry, Cond.initialized RX4, Cond.code yX4_hurry cX4_hurry 1 none, Cond.fieldLink RX4 9 "NeighborBook$Port" "up" "Z", Cond.fieldLink RX4 19 "NeighborBook$Port" "waitLeft" "I"]
def wsX6_tellNothing : List Cond := .code yX6_tellNothing cX6_tellNothing 2 none :: ((wsX6_tellNothing_r1 ++ wsX6_tellNothing_r2) ++ wsX60 ++ wsX00 ++ wsX40)
def wsX6_tellTyped_r1 : List Cond := [Cond.fieldLink RX6 16 "NeighborBook" "told" "LNeighborBook$Contents;", Cond.fieldLink RX6 9 "NeighborBook" "typed" "[B", Cond.fieldLink RX6 65 "NeighborBook" "typedCount" "I", Cond.methodLink RX6 184 yX0_isSame, Cond.instanceMethod yX0_isSame, Cond.selects RX0 yX0_isSame yX0_isSame, Cond.initialized RX0, Cond.code yX0_isSame cX0_isSame 7 (some .boolean), Cond.fieldLink RX0 15 "NeighborBook$Contents" "bytes" "[B", Cond.methodLink RX0 48 yX0_sizeOf, Cond.instanceMethod yX0_sizeOf, Cond.selects RX0 yX0_sizeOf yX0_sizeOf, Cond.code yX0_sizeOf cX0_sizeOf 2 (some .int), Cond.fieldLink RX0 9 "NeighborBook$Contents" "sizes" "[I", Cond.methodLink RX0 35 yX0_startOf, Cond.static yX0_startOf, Cond.code yX0_startOf cX0_startOf 1 (some .int), Cond.methodLink RX6 61 yX0_keep, Cond.instanceMethod yX0_keep, Cond.selects RX0 yX0_keep yX0_keep, Cond.code yX0_keep cX0_keep 5 none, Cond.methodLink RX0 39 arraycopyName, Cond.native arraycopyName, Cond.static arraycopyName]
def wsX6_tellTyped_r2 : List Cond := [Cond.initialized "java/lang/System", Cond.methodLink RX0 32 yX0_isKept, Cond.static yX0_isKept, Cond.code yX0_isKept cX0_isKept 1 (some .boolean), Cond.static yX6_isMore, Cond.initialized RX6, Cond.code yX6_isMore cX6_isMore 1 (some .boolean), Cond.methodLink RX6 181 yX6_hurryAll, Cond.instanceMethod yX6_hurryAll, Cond.selects RX6 yX6_hurryAll yX6_hurryAll, Cond.code yX6_hurryAll cX6_hurryAll 2 none, Cond.fieldLink RX6 22 "NeighborBook" "ports" "[LNeighborBook$Port;", Cond.methodLink RX6 188 yX4_hurry, Cond.instanceMethod yX4_hurry, Cond.selects RX4 yX4_hurry yX4_hurry, Cond.initialized RX4, Cond.code yX4_hurry cX4_hurry 1 none, Cond.fieldLink RX4 9 "NeighborBook$Port" "up" "Z", Cond.fieldLink RX4 19 "NeighborBook$Port" "waitLeft" "I"]
def wsX6_tellTyped : List Cond := .code yX6_tellTyped cX6_tellTyped 2 none :: ((wsX6_tellTyped_r1 ++ wsX6_tellTyped_r2) ++ wsX60 ++ wsX00 ++ wsX40)
def wsX6_tell_r1 : List Cond := [Cond.fieldLink RX6 65 "NeighborBook" "typedCount" "I", Cond.methodLink RX6 68 yX6_isTellable, Cond.static yX6_isTellable, Cond.initialized RX6, Cond.code yX6_isTellable cX6_isTellable 2 (some .boolean), Cond.methodLink RX6 174 yX6_isMore, Cond.static yX6_isMore, Cond.code yX6_isMore cX6_isMore 1 (some .boolean), Cond.methodLink RX6 72 yX6_tellNothing, Cond.instanceMethod yX6_tellNothing, Cond.selects RX6 yX6_tellNothing yX6_tellNothing, Cond.code yX6_tellNothing cX6_tellNothing 2 none, Cond.fieldLink RX6 16 "NeighborBook" "told" "LNeighborBook$Contents;", Cond.methodLink RX6 177 yX0_has, Cond.instanceMethod yX0_has, Cond.selects RX0 yX0_has yX0_has, Cond.initialized RX0, Cond.code yX0_has cX0_has 2 (some .boolean), Cond.methodLink RX0 48 yX0_sizeOf, Cond.instanceMethod yX0_sizeOf, Cond.selects RX0 yX0_sizeOf yX0_sizeOf, Cond.code yX0_sizeOf cX0_sizeOf 2 (some .int), Cond.fieldLink RX0 9 "NeighborBook$Contents" "sizes" "[I", Cond.methodLink RX6 178 yX0_drop]
def wsX6_tell_r2 : List Cond := [Cond.instanceMethod yX0_drop, Cond.selects RX0 yX0_drop yX0_drop, Cond.code yX0_drop cX0_drop 2 none, Cond.methodLink RX0 45 yX0_has, Cond.methodLink RX6 181 yX6_hurryAll, Cond.instanceMethod yX6_hurryAll, Cond.selects RX6 yX6_hurryAll yX6_hurryAll, Cond.code yX6_hurryAll cX6_hurryAll 2 none, Cond.fieldLink RX6 22 "NeighborBook" "ports" "[LNeighborBook$Port;", Cond.methodLink RX6 188 yX4_hurry, Cond.instanceMethod yX4_hurry, Cond.selects RX4 yX4_hurry yX4_hurry, Cond.initialized RX4, Cond.code yX4_hurry cX4_hurry 1 none, Cond.fieldLink RX4 9 "NeighborBook$Port" "up" "Z", Cond.fieldLink RX4 19 "NeighborBook$Port" "waitLeft" "I", Cond.methodLink RX6 76 yX6_tellTyped, Cond.instanceMethod yX6_tellTyped, Cond.selects RX6 yX6_tellTyped yX6_tellTyped, Cond.code yX6_tellTyped cX6_tellTyped 2 none, Cond.fieldLink RX6 9 "NeighborBook" "typed" "[B", Cond.methodLink RX6 184 yX0_isSame, Cond.instanceMethod yX0_isSame, Cond.selects RX0 yX0_isSame yX0_isSame]
def wsX6_tell_r3 : List Cond := [Cond.code yX0_isSame cX0_isSame 7 (some .boolean), Cond.fieldLink RX0 15 "NeighborBook$Contents" "bytes" "[B", Cond.methodLink RX0 35 yX0_startOf, Cond.static yX0_startOf, Cond.code yX0_startOf cX0_startOf 1 (some .int), Cond.methodLink RX6 61 yX0_keep, Cond.instanceMethod yX0_keep, Cond.selects RX0 yX0_keep yX0_keep, Cond.code yX0_keep cX0_keep 5 none, Cond.methodLink RX0 39 arraycopyName, Cond.native arraycopyName, Cond.static arraycopyName, Cond.initialized "java/lang/System", Cond.methodLink RX0 32 yX0_isKept, Cond.static yX0_isKept, Cond.code yX0_isKept cX0_isKept 1 (some .boolean)]
def wsX6_tell : List Cond := .code yX6_tell cX6_tell 2 (some .int) :: ((wsX6_tell_r1 ++ (wsX6_tell_r2 ++ wsX6_tell_r3)) ++ wsX60 ++ wsX00 ++ wsX40)
def wsX6_set : List Cond := .code yX6_set cX6_set 3 (some .int) :: ([.fieldLink RX6 47 "NeighborBook" "interval" "I", .fieldLink RX6 51 "NeighborBook" "hold" "I", .fieldLink RX6 54 "NeighborBook" "quick" "I"] ++ wsX60)
def wsX6_isPort : List Cond := .code yX6_isPort cX6_isPort 1 (some .boolean) :: ([])
def wsX6_port_r1 : List Cond := [Cond.fieldLink RX6 22 "NeighborBook" "ports" "[LNeighborBook$Port;", Cond.fieldLink RX6 54 "NeighborBook" "quick" "I", Cond.fieldLink RX6 43 "NeighborBook" "latest" "LNeighborBook$SentFrame;", Cond.fieldLink RX6 16 "NeighborBook" "told" "LNeighborBook$Contents;", Cond.fieldLink RX6 29 "NeighborBook" "known" "LNeighborBook$Neighbors;", Cond.methodLink RX6 79 yX6_isPort, Cond.static yX6_isPort, Cond.initialized RX6, Cond.code yX6_isPort cX6_isPort 1 (some .boolean), Cond.methodLink RX6 83 yX4_isUp, Cond.instanceMethod yX4_isUp, Cond.selects RX4 yX4_isUp yX4_isUp, Cond.initialized RX4, Cond.code yX4_isUp cX4_isUp 1 (some .boolean), Cond.fieldLink RX4 9 "NeighborBook$Port" "up" "Z", Cond.methodLink RX6 87 yX4_goUp, Cond.instanceMethod yX4_goUp, Cond.selects RX4 yX4_goUp yX4_goUp, Cond.code yX4_goUp cX4_goUp 2 none, Cond.fieldLink RX4 15 "NeighborBook$Port" "quickLeft" "I", Cond.fieldLink RX4 19 "NeighborBook$Port" "waitLeft" "I", Cond.methodLink RX6 90 yX4_goDown, Cond.instanceMethod yX4_goDown, Cond.selects RX4 yX4_goDown yX4_goDown]
def wsX6_port_r2 : List Cond := [Cond.code yX4_goDown cX4_goDown 1 none, Cond.fieldLink RX4 22 "NeighborBook$Port" "framesSent" "I", Cond.methodLink RX6 93 yX5_write, Cond.instanceMethod yX5_write, Cond.selects RX5 yX5_write yX5_write, Cond.initialized RX5, Cond.code yX5_write cX5_write 5 none, Cond.fieldLink RX5 15 "NeighborBook$SentFrame" "port" "I", Cond.fieldLink RX5 19 "NeighborBook$SentFrame" "length" "I", Cond.methodLink RX5 22 yX0_sizeOf, Cond.instanceMethod yX0_sizeOf, Cond.selects RX0 yX0_sizeOf yX0_sizeOf, Cond.initialized RX0, Cond.code yX0_sizeOf cX0_sizeOf 2 (some .int), Cond.fieldLink RX0 9 "NeighborBook$Contents" "sizes" "[I", Cond.methodLink RX5 28 yX5_putHead, Cond.instanceMethod yX5_putHead, Cond.selects RX5 yX5_putHead yX5_putHead, Cond.code yX5_putHead cX5_putHead 4 none, Cond.methodLink RX5 36 yX5_putByte, Cond.instanceMethod yX5_putByte, Cond.selects RX5 yX5_putByte yX5_putByte, Cond.code yX5_putByte cX5_putByte 2 none, Cond.fieldLink RX5 9 "NeighborBook$SentFrame" "bytes" "[B"]
def wsX6_port_r3 : List Cond := [Cond.methodLink RX5 32 yX5_putContent, Cond.instanceMethod yX5_putContent, Cond.selects RX5 yX5_putContent yX5_putContent, Cond.code yX5_putContent cX5_putContent 5 none, Cond.methodLink RX5 44 yX0_byteAt, Cond.instanceMethod yX0_byteAt, Cond.selects RX0 yX0_byteAt yX0_byteAt, Cond.code yX0_byteAt cX0_byteAt 3 (some .int), Cond.fieldLink RX0 15 "NeighborBook$Contents" "bytes" "[B", Cond.methodLink RX0 48 yX0_sizeOf, Cond.methodLink RX0 35 yX0_startOf, Cond.static yX0_startOf, Cond.code yX0_startOf cX0_startOf 1 (some .int), Cond.methodLink RX5 40 yX0_has, Cond.instanceMethod yX0_has, Cond.selects RX0 yX0_has yX0_has, Cond.code yX0_has cX0_has 2 (some .boolean), Cond.methodLink RX6 97 yX3_forgetAllAt, Cond.instanceMethod yX3_forgetAllAt, Cond.selects RX3 yX3_forgetAllAt yX3_forgetAllAt, Cond.initialized RX3, Cond.code yX3_forgetAllAt cX3_forgetAllAt 3 none, Cond.fieldLink RX3 18 "NeighborBook$Neighbors" "size" "I", Cond.fieldLink RX3 11 "NeighborBook$Neighbors" "rows" "[LNeighborBook$Neighbor;"]
def wsX6_port_r4 : List Cond := [Cond.methodLink RX3 22 yX2_portOf, Cond.instanceMethod yX2_portOf, Cond.selects RX2 yX2_portOf yX2_portOf, Cond.initialized RX2, Cond.code yX2_portOf cX2_portOf 1 (some .int), Cond.fieldLink RX2 18 "NeighborBook$Neighbor" "port" "I", Cond.methodLink RX3 44 yX3_forget, Cond.instanceMethod yX3_forget, Cond.selects RX3 yX3_forget yX3_forget, Cond.code yX3_forget cX3_forget 4 none, Cond.methodLink RX3 40 yX3_has, Cond.instanceMethod yX3_has, Cond.selects RX3 yX3_has yX3_has, Cond.code yX3_has cX3_has 2 (some .boolean)]
def wsX6_port : List Cond := .code yX6_port cX6_port 3 (some .int) :: ((wsX6_port_r1 ++ (wsX6_port_r2 ++ (wsX6_port_r3 ++ wsX6_port_r4))) ++ wsX60 ++ wsX40 ++ wsX50 ++ wsX00 ++ wsX30 ++ wsX20)
def wsX6_learn_r1 : List Cond := [Cond.fieldLink RX6 29 "NeighborBook" "known" "LNeighborBook$Neighbors;", Cond.fieldLink RX6 36 "NeighborBook" "reader" "LNeighborBook$FrameReader;", Cond.fieldLink RX6 22 "NeighborBook" "ports" "[LNeighborBook$Port;", Cond.fieldLink RX6 54 "NeighborBook" "quick" "I", Cond.methodLink RX6 191 yX1_contents, Cond.instanceMethod yX1_contents, Cond.selects RX1 yX1_contents yX1_contents, Cond.initialized RX1, Cond.code yX1_contents cX1_contents 1 (some (.object "NeighborBook$Contents")), Cond.fieldLink RX1 12 "NeighborBook$FrameReader" "contents" "LNeighborBook$Contents;", Cond.methodLink RX6 170 yX3_find, Cond.instanceMethod yX3_find, Cond.selects RX3 yX3_find yX3_find, Cond.initialized RX3, Cond.code yX3_find cX3_find 4 (some .int), Cond.fieldLink RX3 18 "NeighborBook$Neighbors" "size" "I", Cond.fieldLink RX3 11 "NeighborBook$Neighbors" "rows" "[LNeighborBook$Neighbor;", Cond.methodLink RX3 22 yX2_portOf, Cond.instanceMethod yX2_portOf, Cond.selects RX2 yX2_portOf yX2_portOf, Cond.initialized RX2, Cond.code yX2_portOf cX2_portOf 1 (some .int), Cond.fieldLink RX2 18 "NeighborBook$Neighbor" "port" "I", Cond.methodLink RX3 26 yX2_contents]
def wsX6_learn_r2 : List Cond := [Cond.instanceMethod yX2_contents, Cond.selects RX2 yX2_contents yX2_contents, Cond.code yX2_contents cX2_contents 1 (some (.object "NeighborBook$Contents")), Cond.fieldLink RX2 12 "NeighborBook$Neighbor" "contents" "LNeighborBook$Contents;", Cond.methodLink RX3 30 yX0_isSameStation, Cond.instanceMethod yX0_isSameStation, Cond.selects RX0 yX0_isSameStation yX0_isSameStation, Cond.initialized RX0, Cond.code yX0_isSameStation cX0_isSameStation 2 (some .boolean), Cond.fieldLink RX0 15 "NeighborBook$Contents" "bytes" "[B", Cond.methodLink RX0 35 yX0_startOf, Cond.static yX0_startOf, Cond.code yX0_startOf cX0_startOf 1 (some .int), Cond.methodLink RX0 48 yX0_sizeOf, Cond.instanceMethod yX0_sizeOf, Cond.selects RX0 yX0_sizeOf yX0_sizeOf, Cond.code yX0_sizeOf cX0_sizeOf 2 (some .int), Cond.fieldLink RX0 9 "NeighborBook$Contents" "sizes" "[I", Cond.methodLink RX0 51 yX0_isSame, Cond.instanceMethod yX0_isSame, Cond.selects RX0 yX0_isSame yX0_isSame, Cond.code yX0_isSame cX0_isSame 7 (some .boolean), Cond.methodLink RX6 192 yX1_held, Cond.instanceMethod yX1_held]
def wsX6_learn_r3 : List Cond := [Cond.selects RX1 yX1_held yX1_held, Cond.code yX1_held cX1_held 1 (some .int), Cond.fieldLink RX1 18 "NeighborBook$FrameReader" "held" "I", Cond.methodLink RX6 195 yX3_forget, Cond.instanceMethod yX3_forget, Cond.selects RX3 yX3_forget yX3_forget, Cond.code yX3_forget cX3_forget 4 none, Cond.methodLink RX3 40 yX3_has, Cond.instanceMethod yX3_has, Cond.selects RX3 yX3_has yX3_has, Cond.code yX3_has cX3_has 2 (some .boolean), Cond.methodLink RX6 198 yX3_add, Cond.instanceMethod yX3_add, Cond.selects RX3 yX3_add yX3_add, Cond.code yX3_add cX3_add 3 (some .int), Cond.methodLink RX3 36 yX2_begin, Cond.instanceMethod yX2_begin, Cond.selects RX2 yX2_begin yX2_begin, Cond.code yX2_begin cX2_begin 2 none, Cond.fieldLink RX2 22 "NeighborBook$Neighbor" "frames" "I", Cond.methodLink RX6 201 yX4_greet, Cond.instanceMethod yX4_greet, Cond.selects RX4 yX4_greet yX4_greet, Cond.initialized RX4]
def wsX6_learn_r4 : List Cond := [Cond.code yX4_greet cX4_greet 2 none, Cond.fieldLink RX4 15 "NeighborBook$Port" "quickLeft" "I", Cond.methodLink RX4 25 Lib.Math.max.name, Cond.static Lib.Math.max.name, Cond.initialized "java/lang/Math", Cond.code Lib.Math.max.name Lib.Math.max.code 2 (some .int), Cond.fieldLink RX4 19 "NeighborBook$Port" "waitLeft" "I", Cond.methodLink RX6 153 yX3_at, Cond.instanceMethod yX3_at, Cond.selects RX3 yX3_at yX3_at, Cond.code yX3_at cX3_at 2 (some (.object "NeighborBook$Neighbor")), Cond.methodLink RX6 204 yX2_renew, Cond.instanceMethod yX2_renew, Cond.selects RX2 yX2_renew yX2_renew, Cond.code yX2_renew cX2_renew 4 (some (.object "NeighborBook$Contents")), Cond.fieldLink RX2 25 "NeighborBook$Neighbor" "ticksLeft" "I", Cond.methodLink RX6 208 yX1_useNext, Cond.instanceMethod yX1_useNext, Cond.selects RX1 yX1_useNext yX1_useNext, Cond.code yX1_useNext cX1_useNext 2 none]
def wsX6_learn : List Cond := .code yX6_learn cX6_learn 4 (some .int) :: ((wsX6_learn_r1 ++ (wsX6_learn_r2 ++ (wsX6_learn_r3 ++ wsX6_learn_r4))) ++ wsX60 ++ wsX10 ++ wsX30 ++ wsX20 ++ wsX00 ++ wsX40)
def wsX6_hear_r1 : List Cond := [Cond.fieldLink RX6 22 "NeighborBook" "ports" "[LNeighborBook$Port;", Cond.fieldLink RX6 36 "NeighborBook" "reader" "LNeighborBook$FrameReader;", Cond.fieldLink RX6 9 "NeighborBook" "typed" "[B", Cond.fieldLink RX6 65 "NeighborBook" "typedCount" "I", Cond.fieldLink RX6 112 "NeighborBook" "latestFault" "I", Cond.methodLink RX6 79 yX6_isPort, Cond.static yX6_isPort, Cond.initialized RX6, Cond.code yX6_isPort cX6_isPort 1 (some .boolean), Cond.methodLink RX6 83 yX4_isUp, Cond.instanceMethod yX4_isUp, Cond.selects RX4 yX4_isUp yX4_isUp, Cond.initialized RX4, Cond.code yX4_isUp cX4_isUp 1 (some .boolean), Cond.fieldLink RX4 9 "NeighborBook$Port" "up" "Z", Cond.methodLink RX6 100 yX1_read, Cond.instanceMethod yX1_read, Cond.selects RX1 yX1_read yX1_read, Cond.initialized RX1, Cond.code yX1_read cX1_read 10 (some .int), Cond.fieldLink RX1 12 "NeighborBook$FrameReader" "contents" "LNeighborBook$Contents;", Cond.methodLink RX1 22 yX0_clear, Cond.instanceMethod yX0_clear, Cond.selects RX0 yX0_clear yX0_clear]
def wsX6_hear_r2 : List Cond := [Cond.initialized RX0, Cond.code yX0_clear cX0_clear 1 none, Cond.fieldLink RX0 9 "NeighborBook$Contents" "sizes" "[I", Cond.methodLink RX0 26 yJ7_fill_53178, Cond.static yJ7_fill_53178, Cond.initialized RJ7, Cond.code yJ7_fill_53178 cJ7_fill_53178 4 none, Cond.methodLink RX1 25 yX1_pairAt, Cond.static yX1_pairAt, Cond.code yX1_pairAt cX1_pairAt 2 (some .int), Cond.methodLink RX1 29 yX1_faultOfPart, Cond.instanceMethod yX1_faultOfPart, Cond.selects RX1 yX1_faultOfPart yX1_faultOfPart, Cond.code yX1_faultOfPart cX1_faultOfPart 5 (some .int), Cond.methodLink RX1 37 yX1_isOutOfOrder, Cond.static yX1_isOutOfOrder, Cond.code yX1_isOutOfOrder cX1_isOutOfOrder 2 (some .boolean), Cond.methodLink RX1 41 yX1_isWrongSize, Cond.static yX1_isWrongSize, Cond.code yX1_isWrongSize cX1_isWrongSize 2 (some .boolean), Cond.static yX6_isMore, Cond.code yX6_isMore cX6_isMore 1 (some .boolean), Cond.methodLink RX1 48 yX0_has, Cond.instanceMethod yX0_has]
def wsX6_hear_r3 : List Cond := [Cond.selects RX0 yX0_has yX0_has, Cond.code yX0_has cX0_has 2 (some .boolean), Cond.methodLink RX0 48 yX0_sizeOf, Cond.instanceMethod yX0_sizeOf, Cond.selects RX0 yX0_sizeOf yX0_sizeOf, Cond.code yX0_sizeOf cX0_sizeOf 2 (some .int), Cond.methodLink RX1 33 yX1_takePart, Cond.instanceMethod yX1_takePart, Cond.selects RX1 yX1_takePart yX1_takePart, Cond.code yX1_takePart cX1_takePart 5 none, Cond.fieldLink RX1 18 "NeighborBook$FrameReader" "held" "I", Cond.methodLink RX1 51 yX0_keep, Cond.instanceMethod yX0_keep, Cond.selects RX0 yX0_keep yX0_keep, Cond.code yX0_keep cX0_keep 5 none, Cond.fieldLink RX0 15 "NeighborBook$Contents" "bytes" "[B", Cond.methodLink RX0 39 arraycopyName, Cond.native arraycopyName, Cond.static arraycopyName, Cond.initialized "java/lang/System", Cond.methodLink RX0 32 yX0_isKept, Cond.static yX0_isKept, Cond.code yX0_isKept cX0_isKept 1 (some .boolean), Cond.methodLink RX0 35 yX0_startOf]
def wsX6_hear_r4 : List Cond := [Cond.static yX0_startOf, Cond.code yX0_startOf cX0_startOf 1 (some .int), Cond.methodLink RX6 104 yX6_learn, Cond.instanceMethod yX6_learn, Cond.selects RX6 yX6_learn yX6_learn, Cond.code yX6_learn cX6_learn 4 (some .int), Cond.fieldLink RX6 29 "NeighborBook" "known" "LNeighborBook$Neighbors;", Cond.fieldLink RX6 54 "NeighborBook" "quick" "I", Cond.methodLink RX6 191 yX1_contents, Cond.instanceMethod yX1_contents, Cond.selects RX1 yX1_contents yX1_contents, Cond.code yX1_contents cX1_contents 1 (some (.object "NeighborBook$Contents")), Cond.methodLink RX6 170 yX3_find, Cond.instanceMethod yX3_find, Cond.selects RX3 yX3_find yX3_find, Cond.initialized RX3, Cond.code yX3_find cX3_find 4 (some .int), Cond.fieldLink RX3 18 "NeighborBook$Neighbors" "size" "I", Cond.fieldLink RX3 11 "NeighborBook$Neighbors" "rows" "[LNeighborBook$Neighbor;", Cond.methodLink RX3 22 yX2_portOf, Cond.instanceMethod yX2_portOf, Cond.selects RX2 yX2_portOf yX2_portOf, Cond.initialized RX2, Cond.code yX2_portOf cX2_portOf 1 (some .int)]
def wsX6_hear_r5 : List Cond := [Cond.fieldLink RX2 18 "NeighborBook$Neighbor" "port" "I", Cond.methodLink RX3 26 yX2_contents, Cond.instanceMethod yX2_contents, Cond.selects RX2 yX2_contents yX2_contents, Cond.code yX2_contents cX2_contents 1 (some (.object "NeighborBook$Contents")), Cond.fieldLink RX2 12 "NeighborBook$Neighbor" "contents" "LNeighborBook$Contents;", Cond.methodLink RX3 30 yX0_isSameStation, Cond.instanceMethod yX0_isSameStation, Cond.selects RX0 yX0_isSameStation yX0_isSameStation, Cond.code yX0_isSameStation cX0_isSameStation 2 (some .boolean), Cond.methodLink RX0 51 yX0_isSame, Cond.instanceMethod yX0_isSame, Cond.selects RX0 yX0_isSame yX0_isSame, Cond.code yX0_isSame cX0_isSame 7 (some .boolean), Cond.methodLink RX6 192 yX1_held, Cond.instanceMethod yX1_held, Cond.selects RX1 yX1_held yX1_held, Cond.code yX1_held cX1_held 1 (some .int), Cond.methodLink RX6 195 yX3_forget, Cond.instanceMethod yX3_forget, Cond.selects RX3 yX3_forget yX3_forget, Cond.code yX3_forget cX3_forget 4 none, Cond.methodLink RX3 40 yX3_has, Cond.instanceMethod yX3_has]
def wsX6_hear_r6 : List Cond := [Cond.selects RX3 yX3_has yX3_has, Cond.code yX3_has cX3_has 2 (some .boolean), Cond.methodLink RX6 198 yX3_add, Cond.instanceMethod yX3_add, Cond.selects RX3 yX3_add yX3_add, Cond.code yX3_add cX3_add 3 (some .int), Cond.methodLink RX3 36 yX2_begin, Cond.instanceMethod yX2_begin, Cond.selects RX2 yX2_begin yX2_begin, Cond.code yX2_begin cX2_begin 2 none, Cond.fieldLink RX2 22 "NeighborBook$Neighbor" "frames" "I", Cond.methodLink RX6 201 yX4_greet, Cond.instanceMethod yX4_greet, Cond.selects RX4 yX4_greet yX4_greet, Cond.code yX4_greet cX4_greet 2 none, Cond.fieldLink RX4 15 "NeighborBook$Port" "quickLeft" "I", Cond.methodLink RX4 25 Lib.Math.max.name, Cond.static Lib.Math.max.name, Cond.initialized "java/lang/Math", Cond.code Lib.Math.max.name Lib.Math.max.code 2 (some .int), Cond.fieldLink RX4 19 "NeighborBook$Port" "waitLeft" "I", Cond.methodLink RX6 153 yX3_at, Cond.instanceMethod yX3_at, Cond.selects RX3 yX3_at yX3_at]
def wsX6_hear_r7 : List Cond := [Cond.code yX3_at cX3_at 2 (some (.object "NeighborBook$Neighbor")), Cond.methodLink RX6 204 yX2_renew, Cond.instanceMethod yX2_renew, Cond.selects RX2 yX2_renew yX2_renew, Cond.code yX2_renew cX2_renew 4 (some (.object "NeighborBook$Contents")), Cond.fieldLink RX2 25 "NeighborBook$Neighbor" "ticksLeft" "I", Cond.methodLink RX6 208 yX1_useNext, Cond.instanceMethod yX1_useNext, Cond.selects RX1 yX1_useNext yX1_useNext, Cond.code yX1_useNext cX1_useNext 2 none, Cond.methodLink RX6 108 yX4_noteHeard, Cond.instanceMethod yX4_noteHeard, Cond.selects RX4 yX4_noteHeard yX4_noteHeard, Cond.code yX4_noteHeard cX4_noteHeard 2 none, Cond.fieldLink RX4 31 "NeighborBook$Port" "heardWell" "I", Cond.fieldLink RX4 34 "NeighborBook$Port" "heardFaulty" "I"]
def wsX6_hear : List Cond := .code yX6_hear cX6_hear 3 (some .int) :: ((wsX6_hear_r1 ++ (wsX6_hear_r2 ++ (wsX6_hear_r3 ++ (wsX6_hear_r4 ++ (wsX6_hear_r5 ++ (wsX6_hear_r6 ++ wsX6_hear_r7)))))) ++ wsX60 ++ wsX40 ++ wsX10 ++ wsX00 ++ wsX30 ++ wsX20)
def wsX6_tick_r1 : List Cond := [Cond.fieldLink RX6 115 "NeighborBook" "ticks" "I", Cond.constant RX6 118 (2147483647), Cond.fieldLink RX6 29 "NeighborBook" "known" "LNeighborBook$Neighbors;", Cond.fieldLink RX6 22 "NeighborBook" "ports" "[LNeighborBook$Port;", Cond.fieldLink RX6 47 "NeighborBook" "interval" "I", Cond.fieldLink RX6 43 "NeighborBook" "latest" "LNeighborBook$SentFrame;", Cond.fieldLink RX6 16 "NeighborBook" "told" "LNeighborBook$Contents;", Cond.fieldLink RX6 51 "NeighborBook" "hold" "I", Cond.constant RX6 124 (65535), Cond.methodLink RX6 125 Lib.Math.min.name, Cond.static Lib.Math.min.name, Cond.initialized "java/lang/Math", Cond.code Lib.Math.min.name Lib.Math.min.code 2 (some .int), Cond.methodLink RX6 119 yX3_passTick, Cond.instanceMethod yX3_passTick, Cond.selects RX3 yX3_passTick yX3_passTick, Cond.initialized RX3, Cond.code yX3_passTick cX3_passTick 2 none, Cond.fieldLink RX3 18 "NeighborBook$Neighbors" "size" "I", Cond.fieldLink RX3 11 "NeighborBook$Neighbors" "rows" "[LNeighborBook$Neighbor;", Cond.methodLink RX3 47 yX2_passTick, Cond.instanceMethod yX2_passTick, Cond.selects RX2 yX2_passTick yX2_passTick, Cond.initialized RX2]
def wsX6_tick_r2 : List Cond := [Cond.code yX2_passTick cX2_passTick 1 (some .boolean), Cond.fieldLink RX2 25 "NeighborBook$Neighbor" "ticksLeft" "I", Cond.methodLink RX3 44 yX3_forget, Cond.instanceMethod yX3_forget, Cond.selects RX3 yX3_forget yX3_forget, Cond.code yX3_forget cX3_forget 4 none, Cond.methodLink RX3 40 yX3_has, Cond.instanceMethod yX3_has, Cond.selects RX3 yX3_has yX3_has, Cond.code yX3_has cX3_has 2 (some .boolean), Cond.methodLink RX6 122 yX4_passTick, Cond.instanceMethod yX4_passTick, Cond.selects RX4 yX4_passTick yX4_passTick, Cond.initialized RX4, Cond.code yX4_passTick cX4_passTick 2 (some .boolean), Cond.fieldLink RX4 9 "NeighborBook$Port" "up" "Z", Cond.fieldLink RX4 19 "NeighborBook$Port" "waitLeft" "I", Cond.fieldLink RX4 22 "NeighborBook$Port" "framesSent" "I", Cond.fieldLink RX4 15 "NeighborBook$Port" "quickLeft" "I", Cond.methodLink RX6 93 yX5_write, Cond.instanceMethod yX5_write, Cond.selects RX5 yX5_write yX5_write, Cond.initialized RX5, Cond.code yX5_write cX5_write 5 none]
def wsX6_tick_r3 : List Cond := [Cond.fieldLink RX5 15 "NeighborBook$SentFrame" "port" "I", Cond.fieldLink RX5 19 "NeighborBook$SentFrame" "length" "I", Cond.methodLink RX5 22 yX0_sizeOf, Cond.instanceMethod yX0_sizeOf, Cond.selects RX0 yX0_sizeOf yX0_sizeOf, Cond.initialized RX0, Cond.code yX0_sizeOf cX0_sizeOf 2 (some .int), Cond.fieldLink RX0 9 "NeighborBook$Contents" "sizes" "[I", Cond.methodLink RX5 28 yX5_putHead, Cond.instanceMethod yX5_putHead, Cond.selects RX5 yX5_putHead yX5_putHead, Cond.code yX5_putHead cX5_putHead 4 none, Cond.methodLink RX5 36 yX5_putByte, Cond.instanceMethod yX5_putByte, Cond.selects RX5 yX5_putByte yX5_putByte, Cond.code yX5_putByte cX5_putByte 2 none, Cond.fieldLink RX5 9 "NeighborBook$SentFrame" "bytes" "[B", Cond.methodLink RX5 32 yX5_putContent, Cond.instanceMethod yX5_putContent, Cond.selects RX5 yX5_putContent yX5_putContent, Cond.code yX5_putContent cX5_putContent 5 none, Cond.methodLink RX5 44 yX0_byteAt, Cond.instanceMethod yX0_byteAt, Cond.selects RX0 yX0_byteAt yX0_byteAt]
def wsX6_tick_r4 : List Cond := [Cond.code yX0_byteAt cX0_byteAt 3 (some .int), Cond.fieldLink RX0 15 "NeighborBook$Contents" "bytes" "[B", Cond.methodLink RX0 48 yX0_sizeOf, Cond.methodLink RX0 35 yX0_startOf, Cond.static yX0_startOf, Cond.code yX0_startOf cX0_startOf 1 (some .int), Cond.methodLink RX5 40 yX0_has, Cond.instanceMethod yX0_has, Cond.selects RX0 yX0_has yX0_has, Cond.code yX0_has cX0_has 2 (some .boolean)]
def wsX6_tick : List Cond := .code yX6_tick cX6_tick 6 (some .int) :: ((wsX6_tick_r1 ++ (wsX6_tick_r2 ++ (wsX6_tick_r3 ++ wsX6_tick_r4))) ++ wsX60 ++ wsX30 ++ wsX20 ++ wsX40 ++ wsX50 ++ wsX00)
def wsX6_about_r1 : List Cond := [Cond.fieldLink RX6 29 "NeighborBook" "known" "LNeighborBook$Neighbors;", Cond.fieldLink RX6 22 "NeighborBook" "ports" "[LNeighborBook$Port;", Cond.methodLink RX6 79 yX6_isPort, Cond.static yX6_isPort, Cond.initialized RX6, Cond.code yX6_isPort cX6_isPort 1 (some .boolean), Cond.methodLink RX6 131 yX3_sizeAt, Cond.instanceMethod yX3_sizeAt, Cond.selects RX3 yX3_sizeAt yX3_sizeAt, Cond.initialized RX3, Cond.code yX3_sizeAt cX3_sizeAt 4 (some .int), Cond.fieldLink RX3 18 "NeighborBook$Neighbors" "size" "I", Cond.fieldLink RX3 11 "NeighborBook$Neighbors" "rows" "[LNeighborBook$Neighbor;", Cond.methodLink RX3 22 yX2_portOf, Cond.instanceMethod yX2_portOf, Cond.selects RX2 yX2_portOf yX2_portOf, Cond.initialized RX2, Cond.code yX2_portOf cX2_portOf 1 (some .int), Cond.fieldLink RX2 18 "NeighborBook$Neighbor" "port" "I", Cond.methodLink RX6 134 yX4_tellAbout, Cond.instanceMethod yX4_tellAbout, Cond.selects RX4 yX4_tellAbout yX4_tellAbout, Cond.initialized RX4, Cond.code yX4_tellAbout cX4_tellAbout 2 (some .int)]
def wsX6_about_r2 : List Cond := [Cond.fieldLink RX4 9 "NeighborBook$Port" "up" "Z", Cond.fieldLink RX4 22 "NeighborBook$Port" "framesSent" "I", Cond.fieldLink RX4 31 "NeighborBook$Port" "heardWell" "I", Cond.fieldLink RX4 34 "NeighborBook$Port" "heardFaulty" "I", Cond.fieldLink RX4 19 "NeighborBook$Port" "waitLeft" "I", Cond.fieldLink RX4 15 "NeighborBook$Port" "quickLeft" "I"]
def wsX6_about : List Cond := .code yX6_about cX6_about 3 (some .int) :: ((wsX6_about_r1 ++ wsX6_about_r2) ++ wsX60 ++ wsX30 ++ wsX20 ++ wsX40)
def wsX6_count : List Cond := .code yX6_count cX6_count 2 (some .int) :: ([.fieldLink RX6 29 "NeighborBook" "known" "LNeighborBook$Neighbors;", .fieldLink RX6 115 "NeighborBook" "ticks" "I", .fieldLink RX6 112 "NeighborBook" "latestFault" "I", .fieldLink RX6 65 "NeighborBook" "typedCount" "I", .fieldLink RX6 43 "NeighborBook" "latest" "LNeighborBook$SentFrame;", .methodLink RX6 137 yX3_size, .instanceMethod yX3_size, .selects RX3 yX3_size yX3_size, .initialized RX3, .code yX3_size cX3_size 1 (some .int), .fieldLink RX3 18 "NeighborBook$Neighbors" "size" "I", .methodLink RX6 141 yX5_portOf, .instanceMethod yX5_portOf, .selects RX5 yX5_portOf yX5_portOf, .initialized RX5, .code yX5_portOf cX5_portOf 1 (some .int), .fieldLink RX5 15 "NeighborBook$SentFrame" "port" "I", .methodLink RX6 144 yX5_length, .instanceMethod yX5_length, .selects RX5 yX5_length yX5_length, .code yX5_length cX5_length 1 (some .int), .fieldLink RX5 19 "NeighborBook$SentFrame" "length" "I"] ++ wsX60 ++ wsX30 ++ wsX50)
def wsX6_sent : List Cond := .code yX6_sent cX6_sent 2 (some .int) :: ([.fieldLink RX6 43 "NeighborBook" "latest" "LNeighborBook$SentFrame;", .methodLink RX6 147 yX5_byteAt, .instanceMethod yX5_byteAt, .selects RX5 yX5_byteAt yX5_byteAt, .initialized RX5, .code yX5_byteAt cX5_byteAt 2 (some .int), .fieldLink RX5 19 "NeighborBook$SentFrame" "length" "I", .fieldLink RX5 9 "NeighborBook$SentFrame" "bytes" "[B"] ++ wsX60 ++ wsX50)
def wsX6_neighbor_r1 : List Cond := [Cond.fieldLink RX6 29 "NeighborBook" "known" "LNeighborBook$Neighbors;", Cond.methodLink RX6 150 yX3_has, Cond.instanceMethod yX3_has, Cond.selects RX3 yX3_has yX3_has, Cond.initialized RX3, Cond.code yX3_has cX3_has 2 (some .boolean), Cond.fieldLink RX3 18 "NeighborBook$Neighbors" "size" "I", Cond.methodLink RX6 153 yX3_at, Cond.instanceMethod yX3_at, Cond.selects RX3 yX3_at yX3_at, Cond.code yX3_at cX3_at 2 (some (.object "NeighborBook$Neighbor")), Cond.fieldLink RX3 11 "NeighborBook$Neighbors" "rows" "[LNeighborBook$Neighbor;", Cond.methodLink RX6 157 yX2_tellAbout, Cond.instanceMethod yX2_tellAbout, Cond.selects RX2 yX2_tellAbout yX2_tellAbout, Cond.initialized RX2, Cond.code yX2_tellAbout cX2_tellAbout 2 (some .int), Cond.fieldLink RX2 18 "NeighborBook$Neighbor" "port" "I", Cond.fieldLink RX2 25 "NeighborBook$Neighbor" "ticksLeft" "I", Cond.fieldLink RX2 22 "NeighborBook$Neighbor" "frames" "I", Cond.fieldLink RX2 12 "NeighborBook$Neighbor" "contents" "LNeighborBook$Contents;", Cond.methodLink RX2 28 yX0_typeBits, Cond.instanceMethod yX0_typeBits, Cond.selects RX0 yX0_typeBits yX0_typeBits]
def wsX6_neighbor_r2 : List Cond := [Cond.initialized RX0, Cond.code yX0_typeBits cX0_typeBits 3 (some .int), Cond.methodLink RX0 45 yX0_has, Cond.instanceMethod yX0_has, Cond.selects RX0 yX0_has yX0_has, Cond.code yX0_has cX0_has 2 (some .boolean), Cond.methodLink RX0 48 yX0_sizeOf, Cond.instanceMethod yX0_sizeOf, Cond.selects RX0 yX0_sizeOf yX0_sizeOf, Cond.code yX0_sizeOf cX0_sizeOf 2 (some .int), Cond.fieldLink RX0 9 "NeighborBook$Contents" "sizes" "[I"]
def wsX6_neighbor : List Cond := .code yX6_neighbor cX6_neighbor 3 (some .int) :: ((wsX6_neighbor_r1 ++ wsX6_neighbor_r2) ++ wsX60 ++ wsX30 ++ wsX20 ++ wsX00)
def wsX6_content_r1 : List Cond := [Cond.fieldLink RX6 29 "NeighborBook" "known" "LNeighborBook$Neighbors;", Cond.methodLink RX6 150 yX3_has, Cond.instanceMethod yX3_has, Cond.selects RX3 yX3_has yX3_has, Cond.initialized RX3, Cond.code yX3_has cX3_has 2 (some .boolean), Cond.fieldLink RX3 18 "NeighborBook$Neighbors" "size" "I", Cond.methodLink RX6 153 yX3_at, Cond.instanceMethod yX3_at, Cond.selects RX3 yX3_at yX3_at, Cond.code yX3_at cX3_at 2 (some (.object "NeighborBook$Neighbor")), Cond.fieldLink RX3 11 "NeighborBook$Neighbors" "rows" "[LNeighborBook$Neighbor;", Cond.methodLink RX6 160 yX2_contents, Cond.instanceMethod yX2_contents, Cond.selects RX2 yX2_contents yX2_contents, Cond.initialized RX2, Cond.code yX2_contents cX2_contents 1 (some (.object "NeighborBook$Contents")), Cond.fieldLink RX2 12 "NeighborBook$Neighbor" "contents" "LNeighborBook$Contents;", Cond.methodLink RX6 164 yX0_sizeOf, Cond.instanceMethod yX0_sizeOf, Cond.selects RX0 yX0_sizeOf yX0_sizeOf, Cond.initialized RX0, Cond.code yX0_sizeOf cX0_sizeOf 2 (some .int), Cond.fieldLink RX0 9 "NeighborBook$Contents" "sizes" "[I"]
def wsX6_content_r2 : List Cond := [Cond.methodLink RX6 167 yX0_byteAt, Cond.instanceMethod yX0_byteAt, Cond.selects RX0 yX0_byteAt yX0_byteAt, Cond.code yX0_byteAt cX0_byteAt 3 (some .int), Cond.fieldLink RX0 15 "NeighborBook$Contents" "bytes" "[B", Cond.methodLink RX0 48 yX0_sizeOf, Cond.methodLink RX0 35 yX0_startOf, Cond.static yX0_startOf, Cond.code yX0_startOf cX0_startOf 1 (some .int)]
def wsX6_content : List Cond := .code yX6_content cX6_content 5 (some .int) :: ((wsX6_content_r1 ++ wsX6_content_r2) ++ wsX60 ++ wsX30 ++ wsX20 ++ wsX00)
def wsX6_check_r1 : List Cond := [Cond.fieldLink RX6 29 "NeighborBook" "known" "LNeighborBook$Neighbors;", Cond.fieldLink RX6 22 "NeighborBook" "ports" "[LNeighborBook$Port;", Cond.methodLink RX6 137 yX3_size, Cond.instanceMethod yX3_size, Cond.selects RX3 yX3_size yX3_size, Cond.initialized RX3, Cond.code yX3_size cX3_size 1 (some .int), Cond.fieldLink RX3 18 "NeighborBook$Neighbors" "size" "I", Cond.methodLink RX6 153 yX3_at, Cond.instanceMethod yX3_at, Cond.selects RX3 yX3_at yX3_at, Cond.code yX3_at cX3_at 2 (some (.object "NeighborBook$Neighbor")), Cond.fieldLink RX3 11 "NeighborBook$Neighbors" "rows" "[LNeighborBook$Neighbor;", Cond.methodLink RX6 169 yX2_portOf, Cond.instanceMethod yX2_portOf, Cond.selects RX2 yX2_portOf yX2_portOf, Cond.initialized RX2, Cond.code yX2_portOf cX2_portOf 1 (some .int), Cond.fieldLink RX2 18 "NeighborBook$Neighbor" "port" "I", Cond.methodLink RX6 79 yX6_isPort, Cond.static yX6_isPort, Cond.initialized RX6, Cond.code yX6_isPort cX6_isPort 1 (some .boolean), Cond.methodLink RX6 83 yX4_isUp]
def wsX6_check_r2 : List Cond := [Cond.instanceMethod yX4_isUp, Cond.selects RX4 yX4_isUp yX4_isUp, Cond.initialized RX4, Cond.code yX4_isUp cX4_isUp 1 (some .boolean), Cond.fieldLink RX4 9 "NeighborBook$Port" "up" "Z", Cond.methodLink RX6 160 yX2_contents, Cond.instanceMethod yX2_contents, Cond.selects RX2 yX2_contents yX2_contents, Cond.code yX2_contents cX2_contents 1 (some (.object "NeighborBook$Contents")), Cond.fieldLink RX2 12 "NeighborBook$Neighbor" "contents" "LNeighborBook$Contents;", Cond.methodLink RX6 170 yX3_find, Cond.instanceMethod yX3_find, Cond.selects RX3 yX3_find yX3_find, Cond.code yX3_find cX3_find 4 (some .int), Cond.methodLink RX3 22 yX2_portOf, Cond.methodLink RX3 26 yX2_contents, Cond.methodLink RX3 30 yX0_isSameStation, Cond.instanceMethod yX0_isSameStation, Cond.selects RX0 yX0_isSameStation yX0_isSameStation, Cond.initialized RX0, Cond.code yX0_isSameStation cX0_isSameStation 2 (some .boolean), Cond.fieldLink RX0 15 "NeighborBook$Contents" "bytes" "[B", Cond.methodLink RX0 35 yX0_startOf, Cond.static yX0_startOf]
def wsX6_check_r3 : List Cond := [Cond.code yX0_startOf cX0_startOf 1 (some .int), Cond.methodLink RX0 48 yX0_sizeOf, Cond.instanceMethod yX0_sizeOf, Cond.selects RX0 yX0_sizeOf yX0_sizeOf, Cond.code yX0_sizeOf cX0_sizeOf 2 (some .int), Cond.fieldLink RX0 9 "NeighborBook$Contents" "sizes" "[I", Cond.methodLink RX0 51 yX0_isSame, Cond.instanceMethod yX0_isSame, Cond.selects RX0 yX0_isSame yX0_isSame, Cond.code yX0_isSame cX0_isSame 7 (some .boolean)]
def wsX6_check : List Cond := .code yX6_check cX6_check 3 (some .int) :: ((wsX6_check_r1 ++ (wsX6_check_r2 ++ wsX6_check_r3)) ++ wsX60 ++ wsX30 ++ wsX20 ++ wsX40 ++ wsX00)
def wsX7_init_r1 : List Cond := [Cond.methodLink RX7 1 objectInit, Cond.instanceMethod objectInit, Cond.code objectInit ⟨#[0xb1]⟩ 1 none, Cond.arrayClass .byte, Cond.fieldLink RX7 7 "NeighborBookModel" "typed" "[B", Cond.fieldLink RX7 13 "NeighborBookModel" "own" "[B", Cond.arrayClass .int, Cond.fieldLink RX7 16 "NeighborBookModel" "ownSizes" "[I", Cond.fieldLink RX7 20 "NeighborBookModel" "interval" "I", Cond.fieldLink RX7 24 "NeighborBookModel" "hold" "I", Cond.fieldLink RX7 27 "NeighborBookModel" "quick" "I", Cond.arrayClass .boolean, Cond.fieldLink RX7 30 "NeighborBookModel" "up" "[Z", Cond.fieldLink RX7 34 "NeighborBookModel" "sentFrames" "[I", Cond.fieldLink RX7 37 "NeighborBookModel" "good" "[I", Cond.fieldLink RX7 40 "NeighborBookModel" "bad" "[I", Cond.fieldLink RX7 43 "NeighborBookModel" "waits" "[I", Cond.fieldLink RX7 46 "NeighborBookModel" "quicks" "[I", Cond.fieldLink RX7 49 "NeighborBookModel" "ports" "[I", Cond.fieldLink RX7 52 "NeighborBookModel" "left" "[I", Cond.fieldLink RX7 55 "NeighborBookModel" "frames" "[I", Cond.fieldLink RX7 58 "NeighborBookModel" "bytes" "[B", Cond.fieldLink RX7 61 "NeighborBookModel" "sizes" "[I", Cond.fieldLink RX7 64 "NeighborBookModel" "page" "[B"]
def wsX7_init_r2 : List Cond := [Cond.fieldLink RX7 67 "NeighborBookModel" "pagePort" "I"]
def wsX7_init : List Cond := .code yX7_init cX7_init 2 none :: ((wsX7_init_r1 ++ wsX7_init_r2) ++ wsX70)
def wsX7_isMore : List Cond := .code yX7_isMore cX7_isMore 1 (some .boolean) :: ([])
def wsX7_type : List Cond := .code yX7_type cX7_type 5 (some .int) :: ([.fieldLink RX7 70 "NeighborBookModel" "typedSize" "I", .fieldLink RX7 7 "NeighborBookModel" "typed" "[B"] ++ wsX70)
def wsX7_tell : List Cond := .code yX7_tell cX7_tell 4 (some .int) :: ([.fieldLink RX7 70 "NeighborBookModel" "typedSize" "I", .fieldLink RX7 13 "NeighborBookModel" "own" "[B", .fieldLink RX7 7 "NeighborBookModel" "typed" "[B", .fieldLink RX7 16 "NeighborBookModel" "ownSizes" "[I", .fieldLink RX7 43 "NeighborBookModel" "waits" "[I", .fieldLink RX7 30 "NeighborBookModel" "up" "[Z", .methodLink RX7 73 yX7_isMore, .static yX7_isMore, .initialized RX7, .code yX7_isMore cX7_isMore 1 (some .boolean)] ++ wsX70)
def wsX7_set : List Cond := .code yX7_set cX7_set 5 (some .int) :: ([.fieldLink RX7 20 "NeighborBookModel" "interval" "I", .fieldLink RX7 24 "NeighborBookModel" "hold" "I", .fieldLink RX7 27 "NeighborBookModel" "quick" "I"] ++ wsX70)
def wsX7_put : List Cond := .code yX7_put cX7_put 2 none :: ([.fieldLink RX7 64 "NeighborBookModel" "page" "[B", .fieldLink RX7 77 "NeighborBookModel" "pageSize" "I"] ++ wsX70)
def wsX7_head : List Cond := .code yX7_head cX7_head 3 none :: ([.methodLink RX7 80 yX7_put, .instanceMethod yX7_put, .selects RX7 yX7_put yX7_put, .initialized RX7, .code yX7_put cX7_put 2 none, .fieldLink RX7 64 "NeighborBookModel" "page" "[B", .fieldLink RX7 77 "NeighborBookModel" "pageSize" "I"] ++ wsX70)
def wsX7_send : List Cond := .code yX7_send cX7_send 5 none :: ([.fieldLink RX7 77 "NeighborBookModel" "pageSize" "I", .fieldLink RX7 67 "NeighborBookModel" "pagePort" "I", .fieldLink RX7 16 "NeighborBookModel" "ownSizes" "[I", .fieldLink RX7 13 "NeighborBookModel" "own" "[B", .fieldLink RX7 34 "NeighborBookModel" "sentFrames" "[I", .methodLink RX7 84 yX7_head, .instanceMethod yX7_head, .selects RX7 yX7_head yX7_head, .initialized RX7, .code yX7_head cX7_head 3 none, .methodLink RX7 80 yX7_put, .instanceMethod yX7_put, .selects RX7 yX7_put yX7_put, .code yX7_put cX7_put 2 none, .fieldLink RX7 64 "NeighborBookModel" "page" "[B"] ++ wsX70)
def wsX7_move : List Cond := .code yX7_move cX7_move 5 none :: ([.fieldLink RX7 49 "NeighborBookModel" "ports" "[I", .fieldLink RX7 52 "NeighborBookModel" "left" "[I", .fieldLink RX7 55 "NeighborBookModel" "frames" "[I", .fieldLink RX7 61 "NeighborBookModel" "sizes" "[I", .fieldLink RX7 58 "NeighborBookModel" "bytes" "[B"] ++ wsX70)
def wsX7_forget : List Cond := .code yX7_forget cX7_forget 3 none :: ([.fieldLink RX7 91 "NeighborBookModel" "known" "I", .methodLink RX7 97 yX7_move, .instanceMethod yX7_move, .selects RX7 yX7_move yX7_move, .initialized RX7, .code yX7_move cX7_move 5 none, .fieldLink RX7 49 "NeighborBookModel" "ports" "[I", .fieldLink RX7 52 "NeighborBookModel" "left" "[I", .fieldLink RX7 55 "NeighborBookModel" "frames" "[I", .fieldLink RX7 61 "NeighborBookModel" "sizes" "[I", .fieldLink RX7 58 "NeighborBookModel" "bytes" "[B"] ++ wsX70)
def wsX7_port_r1 : List Cond := [Cond.fieldLink RX7 30 "NeighborBookModel" "up" "[Z", Cond.fieldLink RX7 43 "NeighborBookModel" "waits" "[I", Cond.fieldLink RX7 46 "NeighborBookModel" "quicks" "[I", Cond.fieldLink RX7 27 "NeighborBookModel" "quick" "I", Cond.fieldLink RX7 91 "NeighborBookModel" "known" "I", Cond.fieldLink RX7 49 "NeighborBookModel" "ports" "[I", Cond.methodLink RX7 88 yX7_send, Cond.instanceMethod yX7_send, Cond.selects RX7 yX7_send yX7_send, Cond.initialized RX7, Cond.code yX7_send cX7_send 5 none, Cond.fieldLink RX7 77 "NeighborBookModel" "pageSize" "I", Cond.fieldLink RX7 67 "NeighborBookModel" "pagePort" "I", Cond.fieldLink RX7 16 "NeighborBookModel" "ownSizes" "[I", Cond.fieldLink RX7 13 "NeighborBookModel" "own" "[B", Cond.fieldLink RX7 34 "NeighborBookModel" "sentFrames" "[I", Cond.methodLink RX7 84 yX7_head, Cond.instanceMethod yX7_head, Cond.selects RX7 yX7_head yX7_head, Cond.code yX7_head cX7_head 3 none, Cond.methodLink RX7 80 yX7_put, Cond.instanceMethod yX7_put, Cond.selects RX7 yX7_put yX7_put, Cond.code yX7_put cX7_put 2 none]
def wsX7_port_r2 : List Cond := [Cond.fieldLink RX7 64 "NeighborBookModel" "page" "[B", Cond.methodLink RX7 94 yX7_forget, Cond.instanceMethod yX7_forget, Cond.selects RX7 yX7_forget yX7_forget, Cond.code yX7_forget cX7_forget 3 none, Cond.methodLink RX7 97 yX7_move, Cond.instanceMethod yX7_move, Cond.selects RX7 yX7_move yX7_move, Cond.code yX7_move cX7_move 5 none, Cond.fieldLink RX7 52 "NeighborBookModel" "left" "[I", Cond.fieldLink RX7 55 "NeighborBookModel" "frames" "[I", Cond.fieldLink RX7 61 "NeighborBookModel" "sizes" "[I", Cond.fieldLink RX7 58 "NeighborBookModel" "bytes" "[B"]
def wsX7_port : List Cond := .code yX7_port cX7_port 4 (some .int) :: ((wsX7_port_r1 ++ wsX7_port_r2) ++ wsX70)
def wsX7_isAlike : List Cond := .code yX7_isAlike cX7_isAlike 6 (some .boolean) :: ([.fieldLink RX7 49 "NeighborBookModel" "ports" "[I", .fieldLink RX7 61 "NeighborBookModel" "sizes" "[I", .fieldLink RX7 58 "NeighborBookModel" "bytes" "[B"] ++ wsX70)
def wsX7_parse : List Cond := .code yX7_parse cX7_parse 7 (some .int) :: ([.fieldLink RX7 61 "NeighborBookModel" "sizes" "[I", .fieldLink RX7 70 "NeighborBookModel" "typedSize" "I", .fieldLink RX7 7 "NeighborBookModel" "typed" "[B", .fieldLink RX7 52 "NeighborBookModel" "left" "[I", .fieldLink RX7 58 "NeighborBookModel" "bytes" "[B", .methodLink RX7 73 yX7_isMore, .static yX7_isMore, .initialized RX7, .code yX7_isMore cX7_isMore 1 (some .boolean)] ++ wsX70)
def wsX7_heard_r1 : List Cond := [Cond.fieldLink RX7 49 "NeighborBookModel" "ports" "[I", Cond.fieldLink RX7 91 "NeighborBookModel" "known" "I", Cond.fieldLink RX7 52 "NeighborBookModel" "left" "[I", Cond.fieldLink RX7 55 "NeighborBookModel" "frames" "[I", Cond.fieldLink RX7 46 "NeighborBookModel" "quicks" "[I", Cond.fieldLink RX7 27 "NeighborBookModel" "quick" "I", Cond.fieldLink RX7 43 "NeighborBookModel" "waits" "[I", Cond.methodLink RX7 100 yX7_parse, Cond.instanceMethod yX7_parse, Cond.selects RX7 yX7_parse yX7_parse, Cond.initialized RX7, Cond.code yX7_parse cX7_parse 7 (some .int), Cond.fieldLink RX7 61 "NeighborBookModel" "sizes" "[I", Cond.fieldLink RX7 70 "NeighborBookModel" "typedSize" "I", Cond.fieldLink RX7 7 "NeighborBookModel" "typed" "[B", Cond.fieldLink RX7 58 "NeighborBookModel" "bytes" "[B", Cond.methodLink RX7 73 yX7_isMore, Cond.static yX7_isMore, Cond.code yX7_isMore cX7_isMore 1 (some .boolean), Cond.methodLink RX7 104 yX7_isAlike, Cond.instanceMethod yX7_isAlike, Cond.selects RX7 yX7_isAlike yX7_isAlike, Cond.code yX7_isAlike cX7_isAlike 6 (some .boolean), Cond.methodLink RX7 94 yX7_forget]
def wsX7_heard_r2 : List Cond := [Cond.instanceMethod yX7_forget, Cond.selects RX7 yX7_forget yX7_forget, Cond.code yX7_forget cX7_forget 3 none, Cond.methodLink RX7 97 yX7_move, Cond.instanceMethod yX7_move, Cond.selects RX7 yX7_move yX7_move, Cond.code yX7_move cX7_move 5 none]
def wsX7_heard : List Cond := .code yX7_heard cX7_heard 5 (some .int) :: ((wsX7_heard_r1 ++ wsX7_heard_r2) ++ wsX70)
def wsX7_hear_r1 : List Cond := [Cond.fieldLink RX7 30 "NeighborBookModel" "up" "[Z", Cond.fieldLink RX7 112 "NeighborBookModel" "fault" "I", Cond.fieldLink RX7 70 "NeighborBookModel" "typedSize" "I", Cond.fieldLink RX7 37 "NeighborBookModel" "good" "[I", Cond.fieldLink RX7 40 "NeighborBookModel" "bad" "[I", Cond.methodLink RX7 108 yX7_heard, Cond.instanceMethod yX7_heard, Cond.selects RX7 yX7_heard yX7_heard, Cond.initialized RX7, Cond.code yX7_heard cX7_heard 5 (some .int), Cond.fieldLink RX7 49 "NeighborBookModel" "ports" "[I", Cond.fieldLink RX7 91 "NeighborBookModel" "known" "I", Cond.fieldLink RX7 52 "NeighborBookModel" "left" "[I", Cond.fieldLink RX7 55 "NeighborBookModel" "frames" "[I", Cond.fieldLink RX7 46 "NeighborBookModel" "quicks" "[I", Cond.fieldLink RX7 27 "NeighborBookModel" "quick" "I", Cond.fieldLink RX7 43 "NeighborBookModel" "waits" "[I", Cond.methodLink RX7 100 yX7_parse, Cond.instanceMethod yX7_parse, Cond.selects RX7 yX7_parse yX7_parse, Cond.code yX7_parse cX7_parse 7 (some .int), Cond.fieldLink RX7 61 "NeighborBookModel" "sizes" "[I", Cond.fieldLink RX7 7 "NeighborBookModel" "typed" "[B", Cond.fieldLink RX7 58 "NeighborBookModel" "bytes" "[B"]
def wsX7_hear_r2 : List Cond := [Cond.methodLink RX7 73 yX7_isMore, Cond.static yX7_isMore, Cond.code yX7_isMore cX7_isMore 1 (some .boolean), Cond.methodLink RX7 104 yX7_isAlike, Cond.instanceMethod yX7_isAlike, Cond.selects RX7 yX7_isAlike yX7_isAlike, Cond.code yX7_isAlike cX7_isAlike 6 (some .boolean), Cond.methodLink RX7 94 yX7_forget, Cond.instanceMethod yX7_forget, Cond.selects RX7 yX7_forget yX7_forget, Cond.code yX7_forget cX7_forget 3 none, Cond.methodLink RX7 97 yX7_move, Cond.instanceMethod yX7_move, Cond.selects RX7 yX7_move yX7_move, Cond.code yX7_move cX7_move 5 none]
def wsX7_hear : List Cond := .code yX7_hear cX7_hear 2 (some .int) :: ((wsX7_hear_r1 ++ wsX7_hear_r2) ++ wsX70)
def wsX7_tick_r1 : List Cond := [Cond.fieldLink RX7 115 "NeighborBookModel" "ticks" "I", Cond.constant RX7 118 (2147483647), Cond.fieldLink RX7 91 "NeighborBookModel" "known" "I", Cond.fieldLink RX7 52 "NeighborBookModel" "left" "[I", Cond.fieldLink RX7 30 "NeighborBookModel" "up" "[Z", Cond.fieldLink RX7 43 "NeighborBookModel" "waits" "[I", Cond.fieldLink RX7 20 "NeighborBookModel" "interval" "I", Cond.fieldLink RX7 24 "NeighborBookModel" "hold" "I", Cond.constant RX7 119 (65535), Cond.fieldLink RX7 46 "NeighborBookModel" "quicks" "[I", Cond.methodLink RX7 94 yX7_forget, Cond.instanceMethod yX7_forget, Cond.selects RX7 yX7_forget yX7_forget, Cond.initialized RX7, Cond.code yX7_forget cX7_forget 3 none, Cond.methodLink RX7 97 yX7_move, Cond.instanceMethod yX7_move, Cond.selects RX7 yX7_move yX7_move, Cond.code yX7_move cX7_move 5 none, Cond.fieldLink RX7 49 "NeighborBookModel" "ports" "[I", Cond.fieldLink RX7 55 "NeighborBookModel" "frames" "[I", Cond.fieldLink RX7 61 "NeighborBookModel" "sizes" "[I", Cond.fieldLink RX7 58 "NeighborBookModel" "bytes" "[B", Cond.methodLink RX7 88 yX7_send]
def wsX7_tick_r2 : List Cond := [Cond.instanceMethod yX7_send, Cond.selects RX7 yX7_send yX7_send, Cond.code yX7_send cX7_send 5 none, Cond.fieldLink RX7 77 "NeighborBookModel" "pageSize" "I", Cond.fieldLink RX7 67 "NeighborBookModel" "pagePort" "I", Cond.fieldLink RX7 16 "NeighborBookModel" "ownSizes" "[I", Cond.fieldLink RX7 13 "NeighborBookModel" "own" "[B", Cond.fieldLink RX7 34 "NeighborBookModel" "sentFrames" "[I", Cond.methodLink RX7 84 yX7_head, Cond.instanceMethod yX7_head, Cond.selects RX7 yX7_head yX7_head, Cond.code yX7_head cX7_head 3 none, Cond.methodLink RX7 80 yX7_put, Cond.instanceMethod yX7_put, Cond.selects RX7 yX7_put yX7_put, Cond.code yX7_put cX7_put 2 none, Cond.fieldLink RX7 64 "NeighborBookModel" "page" "[B"]
def wsX7_tick : List Cond := .code yX7_tick cX7_tick 6 (some .int) :: ((wsX7_tick_r1 ++ wsX7_tick_r2) ++ wsX70)
def wsX7_about : List Cond := .code yX7_about cX7_about 5 (some .int) :: ([.fieldLink RX7 91 "NeighborBookModel" "known" "I", .fieldLink RX7 49 "NeighborBookModel" "ports" "[I", .fieldLink RX7 30 "NeighborBookModel" "up" "[Z", .fieldLink RX7 34 "NeighborBookModel" "sentFrames" "[I", .fieldLink RX7 37 "NeighborBookModel" "good" "[I", .fieldLink RX7 40 "NeighborBookModel" "bad" "[I", .fieldLink RX7 43 "NeighborBookModel" "waits" "[I", .fieldLink RX7 46 "NeighborBookModel" "quicks" "[I"] ++ wsX70)
def wsX7_count : List Cond := .code yX7_count cX7_count 2 (some .int) :: ([.fieldLink RX7 91 "NeighborBookModel" "known" "I", .fieldLink RX7 115 "NeighborBookModel" "ticks" "I", .fieldLink RX7 112 "NeighborBookModel" "fault" "I", .fieldLink RX7 70 "NeighborBookModel" "typedSize" "I", .fieldLink RX7 67 "NeighborBookModel" "pagePort" "I", .fieldLink RX7 77 "NeighborBookModel" "pageSize" "I"] ++ wsX70)
def wsX7_sent : List Cond := .code yX7_sent cX7_sent 2 (some .int) :: ([.fieldLink RX7 77 "NeighborBookModel" "pageSize" "I", .fieldLink RX7 64 "NeighborBookModel" "page" "[B"] ++ wsX70)
def wsX7_neighbor : List Cond := .code yX7_neighbor cX7_neighbor 5 (some .int) :: ([.fieldLink RX7 91 "NeighborBookModel" "known" "I", .fieldLink RX7 49 "NeighborBookModel" "ports" "[I", .fieldLink RX7 52 "NeighborBookModel" "left" "[I", .fieldLink RX7 55 "NeighborBookModel" "frames" "[I", .fieldLink RX7 61 "NeighborBookModel" "sizes" "[I"] ++ wsX70)
def wsX7_content : List Cond := .code yX7_content cX7_content 5 (some .int) :: ([.fieldLink RX7 91 "NeighborBookModel" "known" "I", .fieldLink RX7 61 "NeighborBookModel" "sizes" "[I", .fieldLink RX7 58 "NeighborBookModel" "bytes" "[B"] ++ wsX70)
def wsX7_check : List Cond := .code yX7_check cX7_check 4 (some .int) :: ([.fieldLink RX7 91 "NeighborBookModel" "known" "I", .fieldLink RX7 30 "NeighborBookModel" "up" "[Z", .fieldLink RX7 49 "NeighborBookModel" "ports" "[I", .methodLink RX7 104 yX7_isAlike, .instanceMethod yX7_isAlike, .selects RX7 yX7_isAlike yX7_isAlike, .initialized RX7, .code yX7_isAlike cX7_isAlike 6 (some .boolean), .fieldLink RX7 61 "NeighborBookModel" "sizes" "[I", .fieldLink RX7 58 "NeighborBookModel" "bytes" "[B"] ++ wsX70)
def wsJ9_max_7cf53 : List Cond := .code yJ9_max_7cf53 cJ9_max_7cf53 2 (some .int) :: ([])
def wsJ9_min_7cf53 : List Cond := .code yJ9_min_7cf53 cJ9_min_7cf53 2 (some .int) :: ([])
def wsL_law_r1 : List Cond := [Cond.classLink RL 7 RX6, Cond.instantiable RX6 12, Cond.initialized RX6, Cond.classLink RL 10 RX7, Cond.instantiable RX7 24, Cond.initialized RX7, Cond.constantLong RL 13 (4294967295), Cond.methodLink RL 9 yX6_init, Cond.instanceMethod yX6_init, Cond.code yX6_init cX6_init 2 none, Cond.methodLink RX6 1 objectInit, Cond.instanceMethod objectInit, Cond.code objectInit ⟨#[0xb1]⟩ 1 none, Cond.arrayClass .byte, Cond.fieldLink RX6 9 "NeighborBook" "typed" "[B", Cond.classLink RX6 13 RX0, Cond.instantiable RX0 2, Cond.initialized RX0, Cond.fieldLink RX6 16 "NeighborBook" "told" "LNeighborBook$Contents;", Cond.classLink RX6 20 RX4, Cond.fieldLink RX6 22 "NeighborBook" "ports" "[LNeighborBook$Port;", Cond.classLink RX6 26 RX3, Cond.instantiable RX3 2, Cond.initialized RX3]
def wsL_law_r2 : List Cond := [Cond.fieldLink RX6 29 "NeighborBook" "known" "LNeighborBook$Neighbors;", Cond.classLink RX6 33 RX1, Cond.instantiable RX1 2, Cond.initialized RX1, Cond.fieldLink RX6 36 "NeighborBook" "reader" "LNeighborBook$FrameReader;", Cond.classLink RX6 40 RX5, Cond.instantiable RX5 3, Cond.initialized RX5, Cond.fieldLink RX6 43 "NeighborBook" "latest" "LNeighborBook$SentFrame;", Cond.fieldLink RX6 47 "NeighborBook" "interval" "I", Cond.fieldLink RX6 51 "NeighborBook" "hold" "I", Cond.fieldLink RX6 54 "NeighborBook" "quick" "I", Cond.instantiable RX4 6, Cond.initialized RX4, Cond.fieldLink RX6 58 "NeighborBook" "FIRST_NAME" "[B", Cond.methodLink RX6 15 yX0_init, Cond.instanceMethod yX0_init, Cond.code yX0_init cX0_init 1 none, Cond.methodLink RX0 3 objectInit, Cond.arrayClass .int, Cond.fieldLink RX0 9 "NeighborBook$Contents" "sizes" "[I", Cond.fieldLink RX0 15 "NeighborBook$Contents" "bytes" "[B", Cond.methodLink RX0 19 yX0_clear, Cond.instanceMethod yX0_clear]
def wsL_law_r3 : List Cond := [Cond.selects RX0 yX0_clear yX0_clear, Cond.code yX0_clear cX0_clear 1 none, Cond.methodLink RX0 26 yJ7_fill_53178, Cond.static yJ7_fill_53178, Cond.initialized RJ7, Cond.code yJ7_fill_53178 cJ7_fill_53178 4 none, Cond.methodLink RX6 28 yX3_init, Cond.instanceMethod yX3_init, Cond.code yX3_init cX3_init 2 none, Cond.methodLink RX3 3 objectInit, Cond.classLink RX3 9 RX2, Cond.fieldLink RX3 11 "NeighborBook$Neighbors" "rows" "[LNeighborBook$Neighbor;", Cond.instantiable RX2 4, Cond.initialized RX2, Cond.instanceMethod yX2_init, Cond.code yX2_init cX2_init 1 none, Cond.methodLink RX2 3 objectInit, Cond.classLink RX2 9 RX0, Cond.fieldLink RX2 12 "NeighborBook$Neighbor" "contents" "LNeighborBook$Contents;", Cond.methodLink RX2 11 yX0_init, Cond.instanceMethod yX1_init, Cond.code yX1_init cX1_init 1 none, Cond.methodLink RX1 3 objectInit, Cond.classLink RX1 9 RX0]
def wsL_law_r4 : List Cond := [Cond.fieldLink RX1 12 "NeighborBook$FrameReader" "contents" "LNeighborBook$Contents;", Cond.methodLink RX1 11 yX0_init, Cond.instanceMethod yX5_init, Cond.code yX5_init cX5_init 1 none, Cond.methodLink RX5 3 objectInit, Cond.fieldLink RX5 9 "NeighborBook$SentFrame" "bytes" "[B", Cond.fieldLink RX5 15 "NeighborBook$SentFrame" "port" "I", Cond.instanceMethod yX4_init, Cond.code yX4_init cX4_init 1 none, Cond.methodLink RX4 3 objectInit, Cond.methodLink RX6 61 yX0_keep, Cond.instanceMethod yX0_keep, Cond.selects RX0 yX0_keep yX0_keep, Cond.code yX0_keep cX0_keep 5 none, Cond.methodLink RX0 39 arraycopyName, Cond.native arraycopyName, Cond.static arraycopyName, Cond.initialized "java/lang/System", Cond.methodLink RX0 32 yX0_isKept, Cond.static yX0_isKept, Cond.code yX0_isKept cX0_isKept 1 (some .boolean), Cond.static yX6_isMore, Cond.code yX6_isMore cX6_isMore 1 (some .boolean), Cond.methodLink RX0 35 yX0_startOf]
def wsL_law_r5 : List Cond := [Cond.static yX0_startOf, Cond.code yX0_startOf cX0_startOf 1 (some .int), Cond.methodLink RL 12 yX7_init, Cond.instanceMethod yX7_init, Cond.code yX7_init cX7_init 2 none, Cond.methodLink RX7 1 objectInit, Cond.fieldLink RX7 7 "NeighborBookModel" "typed" "[B", Cond.fieldLink RX7 13 "NeighborBookModel" "own" "[B", Cond.fieldLink RX7 16 "NeighborBookModel" "ownSizes" "[I", Cond.fieldLink RX7 20 "NeighborBookModel" "interval" "I", Cond.fieldLink RX7 24 "NeighborBookModel" "hold" "I", Cond.fieldLink RX7 27 "NeighborBookModel" "quick" "I", Cond.arrayClass .boolean, Cond.fieldLink RX7 30 "NeighborBookModel" "up" "[Z", Cond.fieldLink RX7 34 "NeighborBookModel" "sentFrames" "[I", Cond.fieldLink RX7 37 "NeighborBookModel" "good" "[I", Cond.fieldLink RX7 40 "NeighborBookModel" "bad" "[I", Cond.fieldLink RX7 43 "NeighborBookModel" "waits" "[I", Cond.fieldLink RX7 46 "NeighborBookModel" "quicks" "[I", Cond.fieldLink RX7 49 "NeighborBookModel" "ports" "[I", Cond.fieldLink RX7 52 "NeighborBookModel" "left" "[I", Cond.fieldLink RX7 55 "NeighborBookModel" "frames" "[I", Cond.fieldLink RX7 58 "NeighborBookModel" "bytes" "[B", Cond.fieldLink RX7 61 "NeighborBookModel" "sizes" "[I"]
def wsL_law_r6 : List Cond := [Cond.fieldLink RX7 64 "NeighborBookModel" "page" "[B", Cond.fieldLink RX7 67 "NeighborBookModel" "pagePort" "I", Cond.methodLink RL 15 yX6_type, Cond.instanceMethod yX6_type, Cond.selects RX6 yX6_type yX6_type, Cond.code yX6_type cX6_type 5 (some .int), Cond.fieldLink RX6 65 "NeighborBook" "typedCount" "I", Cond.methodLink RL 19 yX7_type, Cond.instanceMethod yX7_type, Cond.selects RX7 yX7_type yX7_type, Cond.code yX7_type cX7_type 5 (some .int), Cond.fieldLink RX7 70 "NeighborBookModel" "typedSize" "I", Cond.methodLink RL 20 yX6_tell, Cond.instanceMethod yX6_tell, Cond.selects RX6 yX6_tell yX6_tell, Cond.code yX6_tell cX6_tell 2 (some .int), Cond.methodLink RX6 68 yX6_isTellable, Cond.static yX6_isTellable, Cond.code yX6_isTellable cX6_isTellable 2 (some .boolean), Cond.methodLink RX6 174 yX6_isMore, Cond.methodLink RX6 72 yX6_tellNothing, Cond.instanceMethod yX6_tellNothing, Cond.selects RX6 yX6_tellNothing yX6_tellNothing, Cond.code yX6_tellNothing cX6_tellNothing 2 none]
def wsL_law_r7 : List Cond := [Cond.methodLink RX6 177 yX0_has, Cond.instanceMethod yX0_has, Cond.selects RX0 yX0_has yX0_has, Cond.code yX0_has cX0_has 2 (some .boolean), Cond.methodLink RX0 48 yX0_sizeOf, Cond.instanceMethod yX0_sizeOf, Cond.selects RX0 yX0_sizeOf yX0_sizeOf, Cond.code yX0_sizeOf cX0_sizeOf 2 (some .int), Cond.methodLink RX6 178 yX0_drop, Cond.instanceMethod yX0_drop, Cond.selects RX0 yX0_drop yX0_drop, Cond.code yX0_drop cX0_drop 2 none, Cond.methodLink RX0 45 yX0_has, Cond.methodLink RX6 181 yX6_hurryAll, Cond.instanceMethod yX6_hurryAll, Cond.selects RX6 yX6_hurryAll yX6_hurryAll, Cond.code yX6_hurryAll cX6_hurryAll 2 none, Cond.methodLink RX6 188 yX4_hurry, Cond.instanceMethod yX4_hurry, Cond.selects RX4 yX4_hurry yX4_hurry, Cond.code yX4_hurry cX4_hurry 1 none, Cond.fieldLink RX4 9 "NeighborBook$Port" "up" "Z", Cond.fieldLink RX4 19 "NeighborBook$Port" "waitLeft" "I", Cond.methodLink RX6 76 yX6_tellTyped]
def wsL_law_r8 : List Cond := [Cond.instanceMethod yX6_tellTyped, Cond.selects RX6 yX6_tellTyped yX6_tellTyped, Cond.code yX6_tellTyped cX6_tellTyped 2 none, Cond.methodLink RX6 184 yX0_isSame, Cond.instanceMethod yX0_isSame, Cond.selects RX0 yX0_isSame yX0_isSame, Cond.code yX0_isSame cX0_isSame 7 (some .boolean), Cond.methodLink RL 24 yX7_tell, Cond.instanceMethod yX7_tell, Cond.selects RX7 yX7_tell yX7_tell, Cond.code yX7_tell cX7_tell 4 (some .int), Cond.methodLink RX7 73 yX7_isMore, Cond.static yX7_isMore, Cond.code yX7_isMore cX7_isMore 1 (some .boolean), Cond.methodLink RL 25 yX6_set, Cond.instanceMethod yX6_set, Cond.selects RX6 yX6_set yX6_set, Cond.code yX6_set cX6_set 3 (some .int), Cond.methodLink RL 29 yX7_set, Cond.instanceMethod yX7_set, Cond.selects RX7 yX7_set yX7_set, Cond.code yX7_set cX7_set 5 (some .int), Cond.methodLink RL 30 yX6_port, Cond.instanceMethod yX6_port]
def wsL_law_r9 : List Cond := [Cond.selects RX6 yX6_port yX6_port, Cond.code yX6_port cX6_port 3 (some .int), Cond.methodLink RX6 79 yX6_isPort, Cond.static yX6_isPort, Cond.code yX6_isPort cX6_isPort 1 (some .boolean), Cond.methodLink RX6 83 yX4_isUp, Cond.instanceMethod yX4_isUp, Cond.selects RX4 yX4_isUp yX4_isUp, Cond.code yX4_isUp cX4_isUp 1 (some .boolean), Cond.methodLink RX6 87 yX4_goUp, Cond.instanceMethod yX4_goUp, Cond.selects RX4 yX4_goUp yX4_goUp, Cond.code yX4_goUp cX4_goUp 2 none, Cond.fieldLink RX4 15 "NeighborBook$Port" "quickLeft" "I", Cond.methodLink RX6 90 yX4_goDown, Cond.instanceMethod yX4_goDown, Cond.selects RX4 yX4_goDown yX4_goDown, Cond.code yX4_goDown cX4_goDown 1 none, Cond.fieldLink RX4 22 "NeighborBook$Port" "framesSent" "I", Cond.methodLink RX6 93 yX5_write, Cond.instanceMethod yX5_write, Cond.selects RX5 yX5_write yX5_write, Cond.code yX5_write cX5_write 5 none, Cond.fieldLink RX5 19 "NeighborBook$SentFrame" "length" "I"]
def wsL_law_r10 : List Cond := [Cond.methodLink RX5 22 yX0_sizeOf, Cond.methodLink RX5 28 yX5_putHead, Cond.instanceMethod yX5_putHead, Cond.selects RX5 yX5_putHead yX5_putHead, Cond.code yX5_putHead cX5_putHead 4 none, Cond.methodLink RX5 36 yX5_putByte, Cond.instanceMethod yX5_putByte, Cond.selects RX5 yX5_putByte yX5_putByte, Cond.code yX5_putByte cX5_putByte 2 none, Cond.methodLink RX5 32 yX5_putContent, Cond.instanceMethod yX5_putContent, Cond.selects RX5 yX5_putContent yX5_putContent, Cond.code yX5_putContent cX5_putContent 5 none, Cond.methodLink RX5 44 yX0_byteAt, Cond.instanceMethod yX0_byteAt, Cond.selects RX0 yX0_byteAt yX0_byteAt, Cond.code yX0_byteAt cX0_byteAt 3 (some .int), Cond.methodLink RX5 40 yX0_has, Cond.methodLink RX6 97 yX3_forgetAllAt, Cond.instanceMethod yX3_forgetAllAt, Cond.selects RX3 yX3_forgetAllAt yX3_forgetAllAt, Cond.code yX3_forgetAllAt cX3_forgetAllAt 3 none, Cond.fieldLink RX3 18 "NeighborBook$Neighbors" "size" "I", Cond.methodLink RX3 22 yX2_portOf]
def wsL_law_r11 : List Cond := [Cond.instanceMethod yX2_portOf, Cond.selects RX2 yX2_portOf yX2_portOf, Cond.code yX2_portOf cX2_portOf 1 (some .int), Cond.fieldLink RX2 18 "NeighborBook$Neighbor" "port" "I", Cond.methodLink RX3 44 yX3_forget, Cond.instanceMethod yX3_forget, Cond.selects RX3 yX3_forget yX3_forget, Cond.code yX3_forget cX3_forget 4 none, Cond.methodLink RX3 40 yX3_has, Cond.instanceMethod yX3_has, Cond.selects RX3 yX3_has yX3_has, Cond.code yX3_has cX3_has 2 (some .boolean), Cond.methodLink RL 33 yX7_port, Cond.instanceMethod yX7_port, Cond.selects RX7 yX7_port yX7_port, Cond.code yX7_port cX7_port 4 (some .int), Cond.fieldLink RX7 91 "NeighborBookModel" "known" "I", Cond.methodLink RX7 88 yX7_send, Cond.instanceMethod yX7_send, Cond.selects RX7 yX7_send yX7_send, Cond.code yX7_send cX7_send 5 none, Cond.fieldLink RX7 77 "NeighborBookModel" "pageSize" "I", Cond.methodLink RX7 84 yX7_head, Cond.instanceMethod yX7_head]
def wsL_law_r12 : List Cond := [Cond.selects RX7 yX7_head yX7_head, Cond.code yX7_head cX7_head 3 none, Cond.methodLink RX7 80 yX7_put, Cond.instanceMethod yX7_put, Cond.selects RX7 yX7_put yX7_put, Cond.code yX7_put cX7_put 2 none, Cond.methodLink RX7 94 yX7_forget, Cond.instanceMethod yX7_forget, Cond.selects RX7 yX7_forget yX7_forget, Cond.code yX7_forget cX7_forget 3 none, Cond.methodLink RX7 97 yX7_move, Cond.instanceMethod yX7_move, Cond.selects RX7 yX7_move yX7_move, Cond.code yX7_move cX7_move 5 none, Cond.methodLink RL 34 yX6_hear, Cond.instanceMethod yX6_hear, Cond.selects RX6 yX6_hear yX6_hear, Cond.code yX6_hear cX6_hear 3 (some .int), Cond.fieldLink RX6 112 "NeighborBook" "latestFault" "I", Cond.methodLink RX6 100 yX1_read, Cond.instanceMethod yX1_read, Cond.selects RX1 yX1_read yX1_read, Cond.code yX1_read cX1_read 10 (some .int), Cond.methodLink RX1 22 yX0_clear]
def wsL_law_r13 : List Cond := [Cond.methodLink RX1 25 yX1_pairAt, Cond.static yX1_pairAt, Cond.code yX1_pairAt cX1_pairAt 2 (some .int), Cond.methodLink RX1 29 yX1_faultOfPart, Cond.instanceMethod yX1_faultOfPart, Cond.selects RX1 yX1_faultOfPart yX1_faultOfPart, Cond.code yX1_faultOfPart cX1_faultOfPart 5 (some .int), Cond.methodLink RX1 37 yX1_isOutOfOrder, Cond.static yX1_isOutOfOrder, Cond.code yX1_isOutOfOrder cX1_isOutOfOrder 2 (some .boolean), Cond.methodLink RX1 41 yX1_isWrongSize, Cond.static yX1_isWrongSize, Cond.code yX1_isWrongSize cX1_isWrongSize 2 (some .boolean), Cond.methodLink RX1 48 yX0_has, Cond.methodLink RX1 33 yX1_takePart, Cond.instanceMethod yX1_takePart, Cond.selects RX1 yX1_takePart yX1_takePart, Cond.code yX1_takePart cX1_takePart 5 none, Cond.fieldLink RX1 18 "NeighborBook$FrameReader" "held" "I", Cond.methodLink RX1 51 yX0_keep, Cond.methodLink RX6 104 yX6_learn, Cond.instanceMethod yX6_learn, Cond.selects RX6 yX6_learn yX6_learn, Cond.code yX6_learn cX6_learn 4 (some .int)]
def wsL_law_r14 : List Cond := [Cond.methodLink RX6 191 yX1_contents, Cond.instanceMethod yX1_contents, Cond.selects RX1 yX1_contents yX1_contents, Cond.code yX1_contents cX1_contents 1 (some (.object "NeighborBook$Contents")), Cond.methodLink RX6 170 yX3_find, Cond.instanceMethod yX3_find, Cond.selects RX3 yX3_find yX3_find, Cond.code yX3_find cX3_find 4 (some .int), Cond.methodLink RX3 26 yX2_contents, Cond.instanceMethod yX2_contents, Cond.selects RX2 yX2_contents yX2_contents, Cond.code yX2_contents cX2_contents 1 (some (.object "NeighborBook$Contents")), Cond.methodLink RX3 30 yX0_isSameStation, Cond.instanceMethod yX0_isSameStation, Cond.selects RX0 yX0_isSameStation yX0_isSameStation, Cond.code yX0_isSameStation cX0_isSameStation 2 (some .boolean), Cond.methodLink RX0 51 yX0_isSame, Cond.methodLink RX6 192 yX1_held, Cond.instanceMethod yX1_held, Cond.selects RX1 yX1_held yX1_held, Cond.code yX1_held cX1_held 1 (some .int), Cond.methodLink RX6 195 yX3_forget, Cond.methodLink RX6 198 yX3_add, Cond.instanceMethod yX3_add]
def wsL_law_r15 : List Cond := [Cond.selects RX3 yX3_add yX3_add, Cond.code yX3_add cX3_add 3 (some .int), Cond.methodLink RX3 36 yX2_begin, Cond.instanceMethod yX2_begin, Cond.selects RX2 yX2_begin yX2_begin, Cond.code yX2_begin cX2_begin 2 none, Cond.fieldLink RX2 22 "NeighborBook$Neighbor" "frames" "I", Cond.methodLink RX6 201 yX4_greet, Cond.instanceMethod yX4_greet, Cond.selects RX4 yX4_greet yX4_greet, Cond.code yX4_greet cX4_greet 2 none, Cond.methodLink RX4 25 Lib.Math.max.name, Cond.static Lib.Math.max.name, Cond.initialized "java/lang/Math", Cond.code Lib.Math.max.name Lib.Math.max.code 2 (some .int), Cond.methodLink RX6 153 yX3_at, Cond.instanceMethod yX3_at, Cond.selects RX3 yX3_at yX3_at, Cond.code yX3_at cX3_at 2 (some (.object "NeighborBook$Neighbor")), Cond.methodLink RX6 204 yX2_renew, Cond.instanceMethod yX2_renew, Cond.selects RX2 yX2_renew yX2_renew, Cond.code yX2_renew cX2_renew 4 (some (.object "NeighborBook$Contents")), Cond.fieldLink RX2 25 "NeighborBook$Neighbor" "ticksLeft" "I"]
def wsL_law_r16 : List Cond := [Cond.methodLink RX6 208 yX1_useNext, Cond.instanceMethod yX1_useNext, Cond.selects RX1 yX1_useNext yX1_useNext, Cond.code yX1_useNext cX1_useNext 2 none, Cond.methodLink RX6 108 yX4_noteHeard, Cond.instanceMethod yX4_noteHeard, Cond.selects RX4 yX4_noteHeard yX4_noteHeard, Cond.code yX4_noteHeard cX4_noteHeard 2 none, Cond.fieldLink RX4 31 "NeighborBook$Port" "heardWell" "I", Cond.fieldLink RX4 34 "NeighborBook$Port" "heardFaulty" "I", Cond.methodLink RL 37 yX7_hear, Cond.instanceMethod yX7_hear, Cond.selects RX7 yX7_hear yX7_hear, Cond.code yX7_hear cX7_hear 2 (some .int), Cond.fieldLink RX7 112 "NeighborBookModel" "fault" "I", Cond.methodLink RX7 108 yX7_heard, Cond.instanceMethod yX7_heard, Cond.selects RX7 yX7_heard yX7_heard, Cond.code yX7_heard cX7_heard 5 (some .int), Cond.methodLink RX7 100 yX7_parse, Cond.instanceMethod yX7_parse, Cond.selects RX7 yX7_parse yX7_parse, Cond.code yX7_parse cX7_parse 7 (some .int), Cond.methodLink RX7 104 yX7_isAlike]
def wsL_law_r17 : List Cond := [Cond.instanceMethod yX7_isAlike, Cond.selects RX7 yX7_isAlike yX7_isAlike, Cond.code yX7_isAlike cX7_isAlike 6 (some .boolean), Cond.methodLink RL 38 yX6_tick, Cond.instanceMethod yX6_tick, Cond.selects RX6 yX6_tick yX6_tick, Cond.code yX6_tick cX6_tick 6 (some .int), Cond.fieldLink RX6 115 "NeighborBook" "ticks" "I", Cond.constant RX6 118 (2147483647), Cond.constant RX6 124 (65535), Cond.methodLink RX6 125 Lib.Math.min.name, Cond.static Lib.Math.min.name, Cond.code Lib.Math.min.name Lib.Math.min.code 2 (some .int), Cond.methodLink RX6 119 yX3_passTick, Cond.instanceMethod yX3_passTick, Cond.selects RX3 yX3_passTick yX3_passTick, Cond.code yX3_passTick cX3_passTick 2 none, Cond.methodLink RX3 47 yX2_passTick, Cond.instanceMethod yX2_passTick, Cond.selects RX2 yX2_passTick yX2_passTick, Cond.code yX2_passTick cX2_passTick 1 (some .boolean), Cond.methodLink RX6 122 yX4_passTick, Cond.instanceMethod yX4_passTick, Cond.selects RX4 yX4_passTick yX4_passTick]
def wsL_law_r18 : List Cond := [Cond.code yX4_passTick cX4_passTick 2 (some .boolean), Cond.methodLink RL 41 yX7_tick, Cond.instanceMethod yX7_tick, Cond.selects RX7 yX7_tick yX7_tick, Cond.code yX7_tick cX7_tick 6 (some .int), Cond.fieldLink RX7 115 "NeighborBookModel" "ticks" "I", Cond.constant RX7 118 (2147483647), Cond.constant RX7 119 (65535), Cond.methodLink RL 42 yX6_about, Cond.instanceMethod yX6_about, Cond.selects RX6 yX6_about yX6_about, Cond.code yX6_about cX6_about 3 (some .int), Cond.methodLink RX6 131 yX3_sizeAt, Cond.instanceMethod yX3_sizeAt, Cond.selects RX3 yX3_sizeAt yX3_sizeAt, Cond.code yX3_sizeAt cX3_sizeAt 4 (some .int), Cond.methodLink RX6 134 yX4_tellAbout, Cond.instanceMethod yX4_tellAbout, Cond.selects RX4 yX4_tellAbout yX4_tellAbout, Cond.code yX4_tellAbout cX4_tellAbout 2 (some .int), Cond.methodLink RL 45 yX7_about, Cond.instanceMethod yX7_about, Cond.selects RX7 yX7_about yX7_about, Cond.code yX7_about cX7_about 5 (some .int)]
def wsL_law_r19 : List Cond := [Cond.methodLink RL 46 yX6_count, Cond.instanceMethod yX6_count, Cond.selects RX6 yX6_count yX6_count, Cond.code yX6_count cX6_count 2 (some .int), Cond.methodLink RX6 137 yX3_size, Cond.instanceMethod yX3_size, Cond.selects RX3 yX3_size yX3_size, Cond.code yX3_size cX3_size 1 (some .int), Cond.methodLink RX6 141 yX5_portOf, Cond.instanceMethod yX5_portOf, Cond.selects RX5 yX5_portOf yX5_portOf, Cond.code yX5_portOf cX5_portOf 1 (some .int), Cond.methodLink RX6 144 yX5_length, Cond.instanceMethod yX5_length, Cond.selects RX5 yX5_length yX5_length, Cond.code yX5_length cX5_length 1 (some .int), Cond.methodLink RL 49 yX7_count, Cond.instanceMethod yX7_count, Cond.selects RX7 yX7_count yX7_count, Cond.code yX7_count cX7_count 2 (some .int), Cond.methodLink RL 50 yX6_sent, Cond.instanceMethod yX6_sent, Cond.selects RX6 yX6_sent yX6_sent, Cond.code yX6_sent cX6_sent 2 (some .int)]
def wsL_law_r20 : List Cond := [Cond.methodLink RX6 147 yX5_byteAt, Cond.instanceMethod yX5_byteAt, Cond.selects RX5 yX5_byteAt yX5_byteAt, Cond.code yX5_byteAt cX5_byteAt 2 (some .int), Cond.methodLink RL 53 yX7_sent, Cond.instanceMethod yX7_sent, Cond.selects RX7 yX7_sent yX7_sent, Cond.code yX7_sent cX7_sent 2 (some .int), Cond.methodLink RL 54 yX6_neighbor, Cond.instanceMethod yX6_neighbor, Cond.selects RX6 yX6_neighbor yX6_neighbor, Cond.code yX6_neighbor cX6_neighbor 3 (some .int), Cond.methodLink RX6 150 yX3_has, Cond.methodLink RX6 157 yX2_tellAbout, Cond.instanceMethod yX2_tellAbout, Cond.selects RX2 yX2_tellAbout yX2_tellAbout, Cond.code yX2_tellAbout cX2_tellAbout 2 (some .int), Cond.methodLink RX2 28 yX0_typeBits, Cond.instanceMethod yX0_typeBits, Cond.selects RX0 yX0_typeBits yX0_typeBits, Cond.code yX0_typeBits cX0_typeBits 3 (some .int), Cond.methodLink RL 57 yX7_neighbor, Cond.instanceMethod yX7_neighbor, Cond.selects RX7 yX7_neighbor yX7_neighbor]
def wsL_law_r21 : List Cond := [Cond.code yX7_neighbor cX7_neighbor 5 (some .int), Cond.methodLink RL 58 yX6_content, Cond.instanceMethod yX6_content, Cond.selects RX6 yX6_content yX6_content, Cond.code yX6_content cX6_content 5 (some .int), Cond.methodLink RX6 160 yX2_contents, Cond.methodLink RX6 164 yX0_sizeOf, Cond.methodLink RX6 167 yX0_byteAt, Cond.methodLink RL 62 yX7_content, Cond.instanceMethod yX7_content, Cond.selects RX7 yX7_content yX7_content, Cond.code yX7_content cX7_content 5 (some .int), Cond.methodLink RL 63 yX6_check, Cond.instanceMethod yX6_check, Cond.selects RX6 yX6_check yX6_check, Cond.code yX6_check cX6_check 3 (some .int), Cond.methodLink RX6 169 yX2_portOf, Cond.methodLink RL 67 yX7_check, Cond.instanceMethod yX7_check, Cond.selects RX7 yX7_check yX7_check, Cond.code yX7_check cX7_check 4 (some .int)]
def wsL_law : List Cond := (wsL_law_r1 ++ (wsL_law_r2 ++ (wsL_law_r3 ++ (wsL_law_r4 ++ (wsL_law_r5 ++ (wsL_law_r6 ++ (wsL_law_r7 ++ (wsL_law_r8 ++ (wsL_law_r9 ++ (wsL_law_r10 ++ (wsL_law_r11 ++ (wsL_law_r12 ++ (wsL_law_r13 ++ (wsL_law_r14 ++ (wsL_law_r15 ++ (wsL_law_r16 ++ (wsL_law_r17 ++ (wsL_law_r18 ++ (wsL_law_r19 ++ (wsL_law_r20 ++ wsL_law_r21)))))))))))))))))))) ++ wsX60 ++ wsX70 ++ wsX00 ++ wsX30 ++ wsX10 ++ wsX50 ++ wsX40 ++ wsX20 ++ ([] : List Cond)
set_option maxRecDepth 20000 in
theorem wsL_law_r1_in : ∀ w ∈ wsL_law_r1, w ∈ lw_tbl := fun w h => (goodIn_p wsL_law_r1 [33, 36] (by decide +kernel) (by decide +kernel) w h).1
set_option maxRecDepth 20000 in
theorem wsL_law_r2_in : ∀ w ∈ wsL_law_r2, w ∈ lw_tbl := fun w h => (goodIn_p wsL_law_r2 [41] (by decide +kernel) (by decide +kernel) w h).1
set_option maxRecDepth 20000 in
theorem wsL_law_r3_in : ∀ w ∈ wsL_law_r3, w ∈ lw_tbl := fun w h => (goodIn_p wsL_law_r3 [46, 49, 65, 72, 100] (by decide +kernel) (by decide +kernel) w h).1
set_option maxRecDepth 20000 in
theorem wsL_law_r4_in : ∀ w ∈ wsL_law_r4, w ∈ lw_tbl := fun w h => (goodIn_p wsL_law_r4 [115, 130, 156, 159, 162] (by decide +kernel) (by decide +kernel) w h).1
set_option maxRecDepth 20000 in
theorem wsL_law_r5_in : ∀ w ∈ wsL_law_r5, w ∈ lw_tbl := fun w h => (goodIn_p wsL_law_r5 [165, 484] (by decide +kernel) (by decide +kernel) w h).1
set_option maxRecDepth 20000 in
theorem wsL_law_r6_in : ∀ w ∈ wsL_law_r6, w ∈ lw_tbl := fun w h => (goodIn_p wsL_law_r6 [209, 563, 213, 216, 221] (by decide +kernel) (by decide +kernel) w h).1
set_option maxRecDepth 20000 in
theorem wsL_law_r7_in : ∀ w ∈ wsL_law_r7, w ∈ lw_tbl := fun w h => (goodIn_p wsL_law_r7 [225, 229, 233, 238, 242] (by decide +kernel) (by decide +kernel) w h).1
set_option maxRecDepth 20000 in
theorem wsL_law_r8_in : ∀ w ∈ wsL_law_r8, w ∈ lw_tbl := fun w h => (goodIn_p wsL_law_r8 [246, 250, 567, 570, 254, 574] (by decide +kernel) (by decide +kernel) w h).1
set_option maxRecDepth 20000 in
theorem wsL_law_r9_in : ∀ w ∈ wsL_law_r9, w ∈ lw_tbl := fun w h => (goodIn_p wsL_law_r9 [258, 261, 265, 269, 273, 277] (by decide +kernel) (by decide +kernel) w h).1
set_option maxRecDepth 20000 in
theorem wsL_law_r10_in : ∀ w ∈ wsL_law_r10, w ∈ lw_tbl := fun w h => (goodIn_p wsL_law_r10 [282, 286, 290, 294, 299] (by decide +kernel) (by decide +kernel) w h).1
set_option maxRecDepth 20000 in
theorem wsL_law_r11_in : ∀ w ∈ wsL_law_r11, w ∈ lw_tbl := fun w h => (goodIn_p wsL_law_r11 [303, 307, 311, 578, 582] (by decide +kernel) (by decide +kernel) w h).1
set_option maxRecDepth 20000 in
theorem wsL_law_r12_in : ∀ w ∈ wsL_law_r12, w ∈ lw_tbl := fun w h => (goodIn_p wsL_law_r12 [586, 590, 594, 598, 315, 319] (by decide +kernel) (by decide +kernel) w h).1
set_option maxRecDepth 20000 in
theorem wsL_law_r13_in : ∀ w ∈ wsL_law_r13, w ∈ lw_tbl := fun w h => (goodIn_p wsL_law_r13 [323, 327, 330, 333, 339, 344] (by decide +kernel) (by decide +kernel) w h).1
set_option maxRecDepth 20000 in
theorem wsL_law_r14_in : ∀ w ∈ wsL_law_r14, w ∈ lw_tbl := fun w h => (goodIn_p wsL_law_r14 [348, 352, 356, 360, 365] (by decide +kernel) (by decide +kernel) w h).1
set_option maxRecDepth 20000 in
theorem wsL_law_r15_in : ∀ w ∈ wsL_law_r15, w ∈ lw_tbl := fun w h => (goodIn_p wsL_law_r15 [370, 374, 378, 381, 385, 389] (by decide +kernel) (by decide +kernel) w h).1
set_option maxRecDepth 20000 in
theorem wsL_law_r16_in : ∀ w ∈ wsL_law_r16, w ∈ lw_tbl := fun w h => (goodIn_p wsL_law_r16 [393, 397, 602, 606, 610] (by decide +kernel) (by decide +kernel) w h).1
set_option maxRecDepth 20000 in
theorem wsL_law_r17_in : ∀ w ∈ wsL_law_r17, w ∈ lw_tbl := fun w h => (goodIn_p wsL_law_r17 [614, 401, 418, 406, 410] (by decide +kernel) (by decide +kernel) w h).1
set_option maxRecDepth 20000 in
theorem wsL_law_r18_in : ∀ w ∈ wsL_law_r18, w ∈ lw_tbl := fun w h => (goodIn_p wsL_law_r18 [414, 618, 422, 426, 430, 624] (by decide +kernel) (by decide +kernel) w h).1
set_option maxRecDepth 20000 in
theorem wsL_law_r19_in : ∀ w ∈ wsL_law_r19, w ∈ lw_tbl := fun w h => (goodIn_p wsL_law_r19 [434, 438, 442, 446, 628, 450] (by decide +kernel) (by decide +kernel) w h).1
set_option maxRecDepth 20000 in
theorem wsL_law_r20_in : ∀ w ∈ wsL_law_r20, w ∈ lw_tbl := fun w h => (goodIn_p wsL_law_r20 [454, 632, 458, 463, 467] (by decide +kernel) (by decide +kernel) w h).1
set_option maxRecDepth 20000 in
theorem wsL_law_r21_in : ∀ w ∈ wsL_law_r21, w ∈ lw_tbl := fun w h => (goodIn_p wsL_law_r21 [636, 471, 640, 478, 644] (by decide +kernel) (by decide +kernel) w h).1
set_option maxRecDepth 20000 in
theorem wsX60_in : ∀ w ∈ wsX60, w ∈ lw_tbl := by decide +kernel
set_option maxRecDepth 20000 in
theorem wsX70_in : ∀ w ∈ wsX70, w ∈ lw_tbl := by decide +kernel
set_option maxRecDepth 20000 in
theorem wsX00_in : ∀ w ∈ wsX00, w ∈ lw_tbl := by decide +kernel
set_option maxRecDepth 20000 in
theorem wsX30_in : ∀ w ∈ wsX30, w ∈ lw_tbl := by decide +kernel
set_option maxRecDepth 20000 in
theorem wsX10_in : ∀ w ∈ wsX10, w ∈ lw_tbl := by decide +kernel
set_option maxRecDepth 20000 in
theorem wsX50_in : ∀ w ∈ wsX50, w ∈ lw_tbl := by decide +kernel
set_option maxRecDepth 20000 in
theorem wsX40_in : ∀ w ∈ wsX40, w ∈ lw_tbl := by decide +kernel
set_option maxRecDepth 20000 in
theorem wsX20_in : ∀ w ∈ wsX20, w ∈ lw_tbl := by decide +kernel
theorem wsL_law_in : ∀ w ∈ wsL_law, w ∈ lw_tbl := List.forall_mem_append.mpr ⟨List.forall_mem_append.mpr ⟨List.forall_mem_append.mpr ⟨List.forall_mem_append.mpr ⟨List.forall_mem_append.mpr ⟨List.forall_mem_append.mpr ⟨List.forall_mem_append.mpr ⟨List.forall_mem_append.mpr ⟨List.forall_mem_append.mpr ⟨List.forall_mem_append.mpr ⟨wsL_law_r1_in, List.forall_mem_append.mpr ⟨wsL_law_r2_in, List.forall_mem_append.mpr ⟨wsL_law_r3_in, List.forall_mem_append.mpr ⟨wsL_law_r4_in, List.forall_mem_append.mpr ⟨wsL_law_r5_in, List.forall_mem_append.mpr ⟨wsL_law_r6_in, List.forall_mem_append.mpr ⟨wsL_law_r7_in, List.forall_mem_append.mpr ⟨wsL_law_r8_in, List.forall_mem_append.mpr ⟨wsL_law_r9_in, List.forall_mem_append.mpr ⟨wsL_law_r10_in, List.forall_mem_append.mpr ⟨wsL_law_r11_in, List.forall_mem_append.mpr ⟨wsL_law_r12_in, List.forall_mem_append.mpr ⟨wsL_law_r13_in, List.forall_mem_append.mpr ⟨wsL_law_r14_in, List.forall_mem_append.mpr ⟨wsL_law_r15_in, List.forall_mem_append.mpr ⟨wsL_law_r16_in, List.forall_mem_append.mpr ⟨wsL_law_r17_in, List.forall_mem_append.mpr ⟨wsL_law_r18_in, List.forall_mem_append.mpr ⟨wsL_law_r19_in, List.forall_mem_append.mpr ⟨wsL_law_r20_in, wsL_law_r21_in⟩⟩⟩⟩⟩⟩⟩⟩⟩⟩⟩⟩⟩⟩⟩⟩⟩⟩⟩⟩, wsX60_in⟩, wsX70_in⟩, wsX00_in⟩, wsX30_in⟩, wsX10_in⟩, wsX50_in⟩, wsX40_in⟩, wsX20_in⟩, fun _ h => absurd h List.not_mem_nil⟩
theorem inlX0 : ∀ w ∈ wsX00, w ∈ wsL_law := fun _ h => List.mem_append_left _ (List.mem_append_left _ (List.mem_append_left _ (List.mem_append_left _ (List.mem_append_left _ (List.mem_append_left _ (List.mem_append_right _ h))))))
theorem inX0 : ∀ w ∈ wsX00, w ∈ lw_tbl := fun w h => wsL_law_in w (inlX0 w h)
theorem inlX1 : ∀ w ∈ wsX10, w ∈ wsL_law := fun _ h => List.mem_append_left _ (List.mem_append_left _ (List.mem_append_left _ (List.mem_append_left _ (List.mem_append_right _ h))))
theorem inX1 : ∀ w ∈ wsX10, w ∈ lw_tbl := fun w h => wsL_law_in w (inlX1 w h)
theorem inlX2 : ∀ w ∈ wsX20, w ∈ wsL_law := fun _ h => List.mem_append_left _ (List.mem_append_right _ h)
theorem inX2 : ∀ w ∈ wsX20, w ∈ lw_tbl := fun w h => wsL_law_in w (inlX2 w h)
theorem inlX3 : ∀ w ∈ wsX30, w ∈ wsL_law := fun _ h => List.mem_append_left _ (List.mem_append_left _ (List.mem_append_left _ (List.mem_append_left _ (List.mem_append_left _ (List.mem_append_right _ h)))))
theorem inX3 : ∀ w ∈ wsX30, w ∈ lw_tbl := fun w h => wsL_law_in w (inlX3 w h)
theorem inlX4 : ∀ w ∈ wsX40, w ∈ wsL_law := fun _ h => List.mem_append_left _ (List.mem_append_left _ (List.mem_append_right _ h))
theorem inX4 : ∀ w ∈ wsX40, w ∈ lw_tbl := fun w h => wsL_law_in w (inlX4 w h)
theorem inlX5 : ∀ w ∈ wsX50, w ∈ wsL_law := fun _ h => List.mem_append_left _ (List.mem_append_left _ (List.mem_append_left _ (List.mem_append_right _ h)))
theorem inX5 : ∀ w ∈ wsX50, w ∈ lw_tbl := fun w h => wsL_law_in w (inlX5 w h)
theorem inlX6 : ∀ w ∈ wsX60, w ∈ wsL_law := fun _ h => List.mem_append_left _ (List.mem_append_left _ (List.mem_append_left _ (List.mem_append_left _ (List.mem_append_left _ (List.mem_append_left _ (List.mem_append_left _ (List.mem_append_left _ (List.mem_append_right _ h))))))))
theorem inX6 : ∀ w ∈ wsX60, w ∈ lw_tbl := fun w h => wsL_law_in w (inlX6 w h)
theorem inlX7 : ∀ w ∈ wsX70, w ∈ wsL_law := fun _ h => List.mem_append_left _ (List.mem_append_left _ (List.mem_append_left _ (List.mem_append_left _ (List.mem_append_left _ (List.mem_append_left _ (List.mem_append_left _ (List.mem_append_right _ h)))))))
theorem inX7 : ∀ w ∈ wsX70, w ∈ lw_tbl := fun w h => wsL_law_in w (inlX7 w h)
theorem inJ9 : ∀ w ∈ wsJ90, w ∈ lw_tbl := by decide +kernel
theorem inJ10 : ∀ w ∈ wsJ100, w ∈ lw_tbl := by decide +kernel
theorem inJ7 : ∀ w ∈ wsJ70, w ∈ lw_tbl := by decide +kernel
end
section
set_option maxRecDepth 20000 in
theorem ggX0_init_X0_clear : GoodIn wsX0_init wsX0_clear := goodIn_r _ [12, 5, 13, 14, 15, 16, 17, 18] (by decide +kernel) (by decide +kernel)
set_option maxRecDepth 20000 in
theorem gX0_init_X0_clear : GoodIn wsX0_init (wsV RX0 19 RX0 yX0_clear wsX0_clear) := goodIn_app (goodIn_of _ (by decide +kernel)) ggX0_init_X0_clear
theorem dX0_init_0 : decode cX0_init 0 = .ok (.aload_n 0, 1) := by decide +kernel
theorem dX0_init_1 : decode cX0_init 1 = .ok (.invokespecial 3, 3) := by decide +kernel
theorem dX0_init_4 : decode cX0_init 4 = .ok (.aload_n 0, 1) := by decide +kernel
theorem dX0_init_5 : decode cX0_init 5 = .ok (.bipush 9, 2) := by decide +kernel
theorem dX0_init_7 : decode cX0_init 7 = .ok (.newarray .int, 2) := by decide +kernel
theorem dX0_init_9 : decode cX0_init 9 = .ok (.putfield 9, 3) := by decide +kernel
theorem dX0_init_12 : decode cX0_init 12 = .ok (.aload_n 0, 1) := by decide +kernel
theorem dX0_init_13 : decode cX0_init 13 = .ok (.sipush 420, 3) := by decide +kernel
theorem dX0_init_16 : decode cX0_init 16 = .ok (.newarray .byte, 2) := by decide +kernel
theorem dX0_init_18 : decode cX0_init 18 = .ok (.putfield 15, 3) := by decide +kernel
theorem dX0_init_21 : decode cX0_init 21 = .ok (.aload_n 0, 1) := by decide +kernel
theorem dX0_init_22 : decode cX0_init 22 = .ok (.invokevirtual 19, 3) := by decide +kernel
theorem dX0_init_25 : decode cX0_init 25 = .ok (.return_, 1) := by decide +kernel
set_option maxRecDepth 20000 in
theorem ggX0_isKept_X6_isMore : GoodIn wsX0_isKept wsX6_isMore := goodIn_r _ [3] (by decide +kernel) (by decide +kernel)
set_option maxRecDepth 20000 in
theorem gX0_isKept_X6_isMore_n22 : GoodIn wsX0_isKept (wsX6_isMore) := ggX0_isKept_X6_isMore
theorem dX0_isKept_0 : decode cX0_isKept 0 = .ok (.iload_n 0, 1) := by decide +kernel
theorem dX0_isKept_1 : decode cX0_isKept 1 = .ok (.iconst 1, 1) := by decide +kernel
theorem dX0_isKept_2 : decode cX0_isKept 2 = .ok (.if_icmp .eq 15, 3) := by decide +kernel
theorem dX0_isKept_5 : decode cX0_isKept 5 = .ok (.iload_n 0, 1) := by decide +kernel
theorem dX0_isKept_6 : decode cX0_isKept 6 = .ok (.iconst 2, 1) := by decide +kernel
theorem dX0_isKept_7 : decode cX0_isKept 7 = .ok (.if_icmp .eq 10, 3) := by decide +kernel
theorem dX0_isKept_10 : decode cX0_isKept 10 = .ok (.iload_n 0, 1) := by decide +kernel
theorem dX0_isKept_11 : decode cX0_isKept 11 = .ok (.invokestatic 22, 3) := by decide +kernel
theorem dX0_isKept_14 : decode cX0_isKept 14 = .ok (.ifCond .eq 7, 3) := by decide +kernel
theorem dX0_isKept_17 : decode cX0_isKept 17 = .ok (.iconst 1, 1) := by decide +kernel
theorem dX0_isKept_18 : decode cX0_isKept 18 = .ok (.goto 4, 3) := by decide +kernel
theorem dX0_isKept_21 : decode cX0_isKept 21 = .ok (.iconst 0, 1) := by decide +kernel
theorem dX0_isKept_22 : decode cX0_isKept 22 = .ok (.ireturn, 1) := by decide +kernel
theorem dX0_startOf_0 : decode cX0_startOf 0 = .ok (.iload_n 0, 1) := by decide +kernel
theorem dX0_startOf_1 : decode cX0_startOf 1 = .ok (.iconst 3, 1) := by decide +kernel
theorem dX0_startOf_2 : decode cX0_startOf 2 = .ok (.if_icmp .ge 9, 3) := by decide +kernel
theorem dX0_startOf_5 : decode cX0_startOf 5 = .ok (.iload_n 0, 1) := by decide +kernel
theorem dX0_startOf_6 : decode cX0_startOf 6 = .ok (.iconst 1, 1) := by decide +kernel
theorem dX0_startOf_7 : decode cX0_startOf 7 = .ok (.isub, 1) := by decide +kernel
theorem dX0_startOf_8 : decode cX0_startOf 8 = .ok (.goto 6, 3) := by decide +kernel
theorem dX0_startOf_11 : decode cX0_startOf 11 = .ok (.iload_n 0, 1) := by decide +kernel
theorem dX0_startOf_12 : decode cX0_startOf 12 = .ok (.iconst 2, 1) := by decide +kernel
theorem dX0_startOf_13 : decode cX0_startOf 13 = .ok (.isub, 1) := by decide +kernel
theorem dX0_startOf_14 : decode cX0_startOf 14 = .ok (.bipush 60, 2) := by decide +kernel
theorem dX0_startOf_16 : decode cX0_startOf 16 = .ok (.imul, 1) := by decide +kernel
theorem dX0_startOf_17 : decode cX0_startOf 17 = .ok (.ireturn, 1) := by decide +kernel
set_option maxRecDepth 20000 in
theorem ggX0_clear_J7_fill_53178 : GoodIn wsX0_clear wsJ7_fill_53178 := goodIn_r _ [5] (by decide +kernel) (by decide +kernel)
set_option maxRecDepth 20000 in
theorem gX0_clear_J7_fill_53178 : GoodIn wsX0_clear (va_wsS RX0 26 yJ7_fill_53178 wsJ7_fill_53178) := goodIn_app (goodIn_of _ (by decide +kernel)) ggX0_clear_J7_fill_53178
theorem dX0_clear_0 : decode cX0_clear 0 = .ok (.aload_n 0, 1) := by decide +kernel
theorem dX0_clear_1 : decode cX0_clear 1 = .ok (.getfield 9, 3) := by decide +kernel
theorem dX0_clear_4 : decode cX0_clear 4 = .ok (.iconst (-1), 1) := by decide +kernel
theorem dX0_clear_5 : decode cX0_clear 5 = .ok (.invokestatic 26, 3) := by decide +kernel
theorem dX0_clear_8 : decode cX0_clear 8 = .ok (.return_, 1) := by decide +kernel
set_option maxRecDepth 20000 in
theorem ggX0_keep_X0_isKept : GoodIn wsX0_keep wsX0_isKept := goodIn_r _ [10, 11, 12, 13] (by decide +kernel) (by decide +kernel)
set_option maxRecDepth 20000 in
theorem gX0_keep_X0_isKept : GoodIn wsX0_keep (va_wsS RX0 32 yX0_isKept wsX0_isKept) := goodIn_app (goodIn_of _ (by decide +kernel)) ggX0_keep_X0_isKept
set_option maxRecDepth 20000 in
theorem ggX0_keep_X0_startOf : GoodIn wsX0_keep wsX0_startOf := goodIn_r _ [16] (by decide +kernel) (by decide +kernel)
set_option maxRecDepth 20000 in
theorem gX0_keep_X0_startOf : GoodIn wsX0_keep (va_wsS RX0 35 yX0_startOf wsX0_startOf) := goodIn_app (goodIn_of _ (by decide +kernel)) ggX0_keep_X0_startOf
theorem dX0_keep_0 : decode cX0_keep 0 = .ok (.iload_n 1, 1) := by decide +kernel
theorem dX0_keep_1 : decode cX0_keep 1 = .ok (.invokestatic 32, 3) := by decide +kernel
theorem dX0_keep_4 : decode cX0_keep 4 = .ok (.ifCond .eq 51, 3) := by decide +kernel
theorem dX0_keep_7 : decode cX0_keep 7 = .ok (.iload 4, 2) := by decide +kernel
theorem dX0_keep_9 : decode cX0_keep 9 = .ok (.ifCond .lt 46, 3) := by decide +kernel
theorem dX0_keep_12 : decode cX0_keep 12 = .ok (.iload 4, 2) := by decide +kernel
theorem dX0_keep_14 : decode cX0_keep 14 = .ok (.bipush 60, 2) := by decide +kernel
theorem dX0_keep_16 : decode cX0_keep 16 = .ok (.if_icmp .gt 39, 3) := by decide +kernel
theorem dX0_keep_19 : decode cX0_keep 19 = .ok (.iload_n 3, 1) := by decide +kernel
theorem dX0_keep_20 : decode cX0_keep 20 = .ok (.ifCond .lt 35, 3) := by decide +kernel
theorem dX0_keep_23 : decode cX0_keep 23 = .ok (.iload_n 3, 1) := by decide +kernel
theorem dX0_keep_24 : decode cX0_keep 24 = .ok (.aload_n 2, 1) := by decide +kernel
theorem dX0_keep_25 : decode cX0_keep 25 = .ok (.arraylength, 1) := by decide +kernel
theorem dX0_keep_26 : decode cX0_keep 26 = .ok (.iload 4, 2) := by decide +kernel
theorem dX0_keep_28 : decode cX0_keep 28 = .ok (.isub, 1) := by decide +kernel
theorem dX0_keep_29 : decode cX0_keep 29 = .ok (.if_icmp .gt 26, 3) := by decide +kernel
theorem dX0_keep_32 : decode cX0_keep 32 = .ok (.aload_n 2, 1) := by decide +kernel
theorem dX0_keep_33 : decode cX0_keep 33 = .ok (.iload_n 3, 1) := by decide +kernel
theorem dX0_keep_34 : decode cX0_keep 34 = .ok (.aload_n 0, 1) := by decide +kernel
theorem dX0_keep_35 : decode cX0_keep 35 = .ok (.getfield 15, 3) := by decide +kernel
theorem dX0_keep_38 : decode cX0_keep 38 = .ok (.iload_n 1, 1) := by decide +kernel
theorem dX0_keep_39 : decode cX0_keep 39 = .ok (.invokestatic 35, 3) := by decide +kernel
theorem dX0_keep_42 : decode cX0_keep 42 = .ok (.iload 4, 2) := by decide +kernel
theorem dX0_keep_44 : decode cX0_keep 44 = .ok (.invokestatic 39, 3) := by decide +kernel
theorem dX0_keep_47 : decode cX0_keep 47 = .ok (.aload_n 0, 1) := by decide +kernel
theorem dX0_keep_48 : decode cX0_keep 48 = .ok (.getfield 9, 3) := by decide +kernel
theorem dX0_keep_51 : decode cX0_keep 51 = .ok (.iload_n 1, 1) := by decide +kernel
theorem dX0_keep_52 : decode cX0_keep 52 = .ok (.iload 4, 2) := by decide +kernel
theorem dX0_keep_54 : decode cX0_keep 54 = .ok (.iastore, 1) := by decide +kernel
theorem dX0_keep_55 : decode cX0_keep 55 = .ok (.return_, 1) := by decide +kernel
set_option maxRecDepth 20000 in
theorem ggX0_drop_X0_has : GoodIn wsX0_drop wsX0_has := goodIn_r _ [6, 7, 8, 9, 5, 10, 1, 11, 12] (by decide +kernel) (by decide +kernel)
set_option maxRecDepth 20000 in
theorem gX0_drop_X0_has : GoodIn wsX0_drop (wsV RX0 45 RX0 yX0_has wsX0_has) := goodIn_app (goodIn_of _ (by decide +kernel)) ggX0_drop_X0_has
theorem dX0_drop_0 : decode cX0_drop 0 = .ok (.aload_n 0, 1) := by decide +kernel
theorem dX0_drop_1 : decode cX0_drop 1 = .ok (.iload_n 1, 1) := by decide +kernel
theorem dX0_drop_2 : decode cX0_drop 2 = .ok (.invokevirtual 45, 3) := by decide +kernel
theorem dX0_drop_5 : decode cX0_drop 5 = .ok (.ifCond .eq 10, 3) := by decide +kernel
theorem dX0_drop_8 : decode cX0_drop 8 = .ok (.aload_n 0, 1) := by decide +kernel
theorem dX0_drop_9 : decode cX0_drop 9 = .ok (.getfield 9, 3) := by decide +kernel
theorem dX0_drop_12 : decode cX0_drop 12 = .ok (.iload_n 1, 1) := by decide +kernel
theorem dX0_drop_13 : decode cX0_drop 13 = .ok (.iconst (-1), 1) := by decide +kernel
theorem dX0_drop_14 : decode cX0_drop 14 = .ok (.iastore, 1) := by decide +kernel
theorem dX0_drop_15 : decode cX0_drop 15 = .ok (.return_, 1) := by decide +kernel
set_option maxRecDepth 20000 in
theorem ggX0_has_X0_sizeOf : GoodIn wsX0_has wsX0_sizeOf := goodIn_r _ [5, 6, 7, 8] (by decide +kernel) (by decide +kernel)
set_option maxRecDepth 20000 in
theorem gX0_has_X0_sizeOf : GoodIn wsX0_has (wsV RX0 48 RX0 yX0_sizeOf wsX0_sizeOf) := goodIn_app (goodIn_of _ (by decide +kernel)) ggX0_has_X0_sizeOf
theorem dX0_has_0 : decode cX0_has 0 = .ok (.aload_n 0, 1) := by decide +kernel
theorem dX0_has_1 : decode cX0_has 1 = .ok (.iload_n 1, 1) := by decide +kernel
theorem dX0_has_2 : decode cX0_has 2 = .ok (.invokevirtual 48, 3) := by decide +kernel
theorem dX0_has_5 : decode cX0_has 5 = .ok (.iconst (-1), 1) := by decide +kernel
theorem dX0_has_6 : decode cX0_has 6 = .ok (.if_icmp .eq 7, 3) := by decide +kernel
theorem dX0_has_9 : decode cX0_has 9 = .ok (.iconst 1, 1) := by decide +kernel
theorem dX0_has_10 : decode cX0_has 10 = .ok (.goto 4, 3) := by decide +kernel
theorem dX0_has_13 : decode cX0_has 13 = .ok (.iconst 0, 1) := by decide +kernel
theorem dX0_has_14 : decode cX0_has 14 = .ok (.ireturn, 1) := by decide +kernel
theorem dX0_sizeOf_0 : decode cX0_sizeOf 0 = .ok (.iload_n 1, 1) := by decide +kernel
theorem dX0_sizeOf_1 : decode cX0_sizeOf 1 = .ok (.ifCond .lt 21, 3) := by decide +kernel
theorem dX0_sizeOf_4 : decode cX0_sizeOf 4 = .ok (.iload_n 1, 1) := by decide +kernel
theorem dX0_sizeOf_5 : decode cX0_sizeOf 5 = .ok (.aload_n 0, 1) := by decide +kernel
theorem dX0_sizeOf_6 : decode cX0_sizeOf 6 = .ok (.getfield 9, 3) := by decide +kernel
theorem dX0_sizeOf_9 : decode cX0_sizeOf 9 = .ok (.arraylength, 1) := by decide +kernel
theorem dX0_sizeOf_10 : decode cX0_sizeOf 10 = .ok (.if_icmp .ge 12, 3) := by decide +kernel
theorem dX0_sizeOf_13 : decode cX0_sizeOf 13 = .ok (.aload_n 0, 1) := by decide +kernel
theorem dX0_sizeOf_14 : decode cX0_sizeOf 14 = .ok (.getfield 9, 3) := by decide +kernel
theorem dX0_sizeOf_17 : decode cX0_sizeOf 17 = .ok (.iload_n 1, 1) := by decide +kernel
theorem dX0_sizeOf_18 : decode cX0_sizeOf 18 = .ok (.iaload, 1) := by decide +kernel
theorem dX0_sizeOf_19 : decode cX0_sizeOf 19 = .ok (.goto 4, 3) := by decide +kernel
theorem dX0_sizeOf_22 : decode cX0_sizeOf 22 = .ok (.iconst (-1), 1) := by decide +kernel
theorem dX0_sizeOf_23 : decode cX0_sizeOf 23 = .ok (.ireturn, 1) := by decide +kernel
set_option maxRecDepth 20000 in
theorem ggX0_byteAt_X0_sizeOf : GoodIn wsX0_byteAt wsX0_sizeOf := goodIn_r _ [6, 7, 11, 12] (by decide +kernel) (by decide +kernel)
set_option maxRecDepth 20000 in
theorem gX0_byteAt_X0_sizeOf : GoodIn wsX0_byteAt (wsV RX0 48 RX0 yX0_sizeOf wsX0_sizeOf) := goodIn_app (goodIn_of _ (by decide +kernel)) ggX0_byteAt_X0_sizeOf
set_option maxRecDepth 20000 in
theorem ggX0_byteAt_X0_startOf : GoodIn wsX0_byteAt wsX0_startOf := goodIn_r _ [10] (by decide +kernel) (by decide +kernel)
set_option maxRecDepth 20000 in
theorem gX0_byteAt_X0_startOf : GoodIn wsX0_byteAt (va_wsS RX0 35 yX0_startOf wsX0_startOf) := goodIn_app (goodIn_of _ (by decide +kernel)) ggX0_byteAt_X0_startOf
theorem dX0_byteAt_0 : decode cX0_byteAt 0 = .ok (.iload_n 2, 1) := by decide +kernel
theorem dX0_byteAt_1 : decode cX0_byteAt 1 = .ok (.ifCond .lt 12, 3) := by decide +kernel
theorem dX0_byteAt_4 : decode cX0_byteAt 4 = .ok (.iload_n 2, 1) := by decide +kernel
theorem dX0_byteAt_5 : decode cX0_byteAt 5 = .ok (.aload_n 0, 1) := by decide +kernel
theorem dX0_byteAt_6 : decode cX0_byteAt 6 = .ok (.iload_n 1, 1) := by decide +kernel
theorem dX0_byteAt_7 : decode cX0_byteAt 7 = .ok (.invokevirtual 48, 3) := by decide +kernel
theorem dX0_byteAt_10 : decode cX0_byteAt 10 = .ok (.if_icmp .lt 5, 3) := by decide +kernel
theorem dX0_byteAt_13 : decode cX0_byteAt 13 = .ok (.iconst (-1), 1) := by decide +kernel
theorem dX0_byteAt_14 : decode cX0_byteAt 14 = .ok (.ireturn, 1) := by decide +kernel
theorem dX0_byteAt_15 : decode cX0_byteAt 15 = .ok (.aload_n 0, 1) := by decide +kernel
theorem dX0_byteAt_16 : decode cX0_byteAt 16 = .ok (.getfield 15, 3) := by decide +kernel
theorem dX0_byteAt_19 : decode cX0_byteAt 19 = .ok (.iload_n 1, 1) := by decide +kernel
theorem dX0_byteAt_20 : decode cX0_byteAt 20 = .ok (.invokestatic 35, 3) := by decide +kernel
theorem dX0_byteAt_23 : decode cX0_byteAt 23 = .ok (.iload_n 2, 1) := by decide +kernel
theorem dX0_byteAt_24 : decode cX0_byteAt 24 = .ok (.iadd, 1) := by decide +kernel
theorem dX0_byteAt_25 : decode cX0_byteAt 25 = .ok (.baload, 1) := by decide +kernel
theorem dX0_byteAt_26 : decode cX0_byteAt 26 = .ok (.sipush 255, 3) := by decide +kernel
theorem dX0_byteAt_29 : decode cX0_byteAt 29 = .ok (.iand, 1) := by decide +kernel
theorem dX0_byteAt_30 : decode cX0_byteAt 30 = .ok (.ireturn, 1) := by decide +kernel
set_option maxRecDepth 20000 in
theorem ggX0_isSame_X0_sizeOf : GoodIn wsX0_isSame wsX0_sizeOf := goodIn_r _ [6, 7, 11, 12] (by decide +kernel) (by decide +kernel)
set_option maxRecDepth 20000 in
theorem gX0_isSame_X0_sizeOf : GoodIn wsX0_isSame (wsV RX0 48 RX0 yX0_sizeOf wsX0_sizeOf) := goodIn_app (goodIn_of _ (by decide +kernel)) ggX0_isSame_X0_sizeOf
set_option maxRecDepth 20000 in
theorem ggX0_isSame_X0_startOf : GoodIn wsX0_isSame wsX0_startOf := goodIn_r _ [10] (by decide +kernel) (by decide +kernel)
set_option maxRecDepth 20000 in
theorem gX0_isSame_X0_startOf : GoodIn wsX0_isSame (va_wsS RX0 35 yX0_startOf wsX0_startOf) := goodIn_app (goodIn_of _ (by decide +kernel)) ggX0_isSame_X0_startOf
theorem dX0_isSame_0 : decode cX0_isSame 0 = .ok (.aload_n 0, 1) := by decide +kernel
theorem dX0_isSame_1 : decode cX0_isSame 1 = .ok (.iload_n 1, 1) := by decide +kernel
theorem dX0_isSame_2 : decode cX0_isSame 2 = .ok (.invokevirtual 48, 3) := by decide +kernel
theorem dX0_isSame_5 : decode cX0_isSame 5 = .ok (.iload 4, 2) := by decide +kernel
theorem dX0_isSame_7 : decode cX0_isSame 7 = .ok (.if_icmp .ne 16, 3) := by decide +kernel
theorem dX0_isSame_10 : decode cX0_isSame 10 = .ok (.iload_n 3, 1) := by decide +kernel
theorem dX0_isSame_11 : decode cX0_isSame 11 = .ok (.ifCond .lt 12, 3) := by decide +kernel
theorem dX0_isSame_14 : decode cX0_isSame 14 = .ok (.iload_n 3, 1) := by decide +kernel
theorem dX0_isSame_15 : decode cX0_isSame 15 = .ok (.aload_n 2, 1) := by decide +kernel
theorem dX0_isSame_16 : decode cX0_isSame 16 = .ok (.arraylength, 1) := by decide +kernel
theorem dX0_isSame_17 : decode cX0_isSame 17 = .ok (.iload 4, 2) := by decide +kernel
theorem dX0_isSame_19 : decode cX0_isSame 19 = .ok (.isub, 1) := by decide +kernel
theorem dX0_isSame_20 : decode cX0_isSame 20 = .ok (.if_icmp .le 5, 3) := by decide +kernel
theorem dX0_isSame_23 : decode cX0_isSame 23 = .ok (.iconst 0, 1) := by decide +kernel
theorem dX0_isSame_24 : decode cX0_isSame 24 = .ok (.ireturn, 1) := by decide +kernel
theorem dX0_isSame_25 : decode cX0_isSame 25 = .ok (.iload_n 1, 1) := by decide +kernel
theorem dX0_isSame_26 : decode cX0_isSame 26 = .ok (.invokestatic 35, 3) := by decide +kernel
theorem dX0_isSame_29 : decode cX0_isSame 29 = .ok (.istore 5, 2) := by decide +kernel
theorem dX0_isSame_31 : decode cX0_isSame 31 = .ok (.iconst 0, 1) := by decide +kernel
theorem dX0_isSame_32 : decode cX0_isSame 32 = .ok (.istore 6, 2) := by decide +kernel
theorem dX0_isSame_34 : decode cX0_isSame 34 = .ok (.iload 6, 2) := by decide +kernel
theorem dX0_isSame_36 : decode cX0_isSame 36 = .ok (.iload 4, 2) := by decide +kernel
theorem dX0_isSame_38 : decode cX0_isSame 38 = .ok (.if_icmp .ge 30, 3) := by decide +kernel
theorem dX0_isSame_41 : decode cX0_isSame 41 = .ok (.aload_n 0, 1) := by decide +kernel
theorem dX0_isSame_42 : decode cX0_isSame 42 = .ok (.getfield 15, 3) := by decide +kernel
theorem dX0_isSame_45 : decode cX0_isSame 45 = .ok (.iload 5, 2) := by decide +kernel
theorem dX0_isSame_47 : decode cX0_isSame 47 = .ok (.iload 6, 2) := by decide +kernel
theorem dX0_isSame_49 : decode cX0_isSame 49 = .ok (.iadd, 1) := by decide +kernel
theorem dX0_isSame_50 : decode cX0_isSame 50 = .ok (.baload, 1) := by decide +kernel
theorem dX0_isSame_51 : decode cX0_isSame 51 = .ok (.aload_n 2, 1) := by decide +kernel
theorem dX0_isSame_52 : decode cX0_isSame 52 = .ok (.iload_n 3, 1) := by decide +kernel
theorem dX0_isSame_53 : decode cX0_isSame 53 = .ok (.iload 6, 2) := by decide +kernel
theorem dX0_isSame_55 : decode cX0_isSame 55 = .ok (.iadd, 1) := by decide +kernel
theorem dX0_isSame_56 : decode cX0_isSame 56 = .ok (.baload, 1) := by decide +kernel
theorem dX0_isSame_57 : decode cX0_isSame 57 = .ok (.if_icmp .eq 5, 3) := by decide +kernel
theorem dX0_isSame_60 : decode cX0_isSame 60 = .ok (.iconst 0, 1) := by decide +kernel
theorem dX0_isSame_61 : decode cX0_isSame 61 = .ok (.ireturn, 1) := by decide +kernel
theorem dX0_isSame_62 : decode cX0_isSame 62 = .ok (.iinc 6 1, 3) := by decide +kernel
theorem dX0_isSame_65 : decode cX0_isSame 65 = .ok (.goto (-31), 3) := by decide +kernel
theorem dX0_isSame_68 : decode cX0_isSame 68 = .ok (.iconst 1, 1) := by decide +kernel
theorem dX0_isSame_69 : decode cX0_isSame 69 = .ok (.ireturn, 1) := by decide +kernel
set_option maxRecDepth 20000 in
theorem ggX0_isSameStation_X0_startOf : GoodIn wsX0_isSameStation wsX0_startOf := goodIn_r _ [5] (by decide +kernel) (by decide +kernel)
set_option maxRecDepth 20000 in
theorem gX0_isSameStation_X0_startOf : GoodIn wsX0_isSameStation (va_wsS RX0 35 yX0_startOf wsX0_startOf) := goodIn_app (goodIn_of _ (by decide +kernel)) ggX0_isSameStation_X0_startOf
set_option maxRecDepth 20000 in
theorem ggX0_isSameStation_X0_sizeOf : GoodIn wsX0_isSameStation wsX0_sizeOf := goodIn_r _ [9, 10, 15, 16] (by decide +kernel) (by decide +kernel)
set_option maxRecDepth 20000 in
theorem gX0_isSameStation_X0_sizeOf : GoodIn wsX0_isSameStation (wsV RX0 48 RX0 yX0_sizeOf wsX0_sizeOf) := goodIn_app (goodIn_of _ (by decide +kernel)) ggX0_isSameStation_X0_sizeOf
set_option maxRecDepth 20000 in
theorem ggX0_isSameStation_X0_isSame : GoodIn wsX0_isSameStation wsX0_isSame := goodIn_r _ [14, 1, 6, 7, 8, 4, 9, 10, 2, 3, 5, 15, 16] (by decide +kernel) (by decide +kernel)
set_option maxRecDepth 20000 in
theorem gX0_isSameStation_X0_isSame : GoodIn wsX0_isSameStation (wsV RX0 51 RX0 yX0_isSame wsX0_isSame) := goodIn_app (goodIn_of _ (by decide +kernel)) ggX0_isSameStation_X0_isSame
theorem dX0_isSameStation_0 : decode cX0_isSameStation 0 = .ok (.aload_n 0, 1) := by decide +kernel
theorem dX0_isSameStation_1 : decode cX0_isSameStation 1 = .ok (.iconst 1, 1) := by decide +kernel
theorem dX0_isSameStation_2 : decode cX0_isSameStation 2 = .ok (.aload_n 1, 1) := by decide +kernel
theorem dX0_isSameStation_3 : decode cX0_isSameStation 3 = .ok (.getfield 15, 3) := by decide +kernel
theorem dX0_isSameStation_6 : decode cX0_isSameStation 6 = .ok (.iconst 1, 1) := by decide +kernel
theorem dX0_isSameStation_7 : decode cX0_isSameStation 7 = .ok (.invokestatic 35, 3) := by decide +kernel
theorem dX0_isSameStation_10 : decode cX0_isSameStation 10 = .ok (.aload_n 1, 1) := by decide +kernel
theorem dX0_isSameStation_11 : decode cX0_isSameStation 11 = .ok (.iconst 1, 1) := by decide +kernel
theorem dX0_isSameStation_12 : decode cX0_isSameStation 12 = .ok (.invokevirtual 48, 3) := by decide +kernel
theorem dX0_isSameStation_15 : decode cX0_isSameStation 15 = .ok (.invokevirtual 51, 3) := by decide +kernel
theorem dX0_isSameStation_18 : decode cX0_isSameStation 18 = .ok (.ifCond .eq 28, 3) := by decide +kernel
theorem dX0_isSameStation_21 : decode cX0_isSameStation 21 = .ok (.aload_n 0, 1) := by decide +kernel
theorem dX0_isSameStation_22 : decode cX0_isSameStation 22 = .ok (.iconst 2, 1) := by decide +kernel
theorem dX0_isSameStation_23 : decode cX0_isSameStation 23 = .ok (.aload_n 1, 1) := by decide +kernel
theorem dX0_isSameStation_24 : decode cX0_isSameStation 24 = .ok (.getfield 15, 3) := by decide +kernel
theorem dX0_isSameStation_27 : decode cX0_isSameStation 27 = .ok (.iconst 2, 1) := by decide +kernel
theorem dX0_isSameStation_28 : decode cX0_isSameStation 28 = .ok (.invokestatic 35, 3) := by decide +kernel
theorem dX0_isSameStation_31 : decode cX0_isSameStation 31 = .ok (.aload_n 1, 1) := by decide +kernel
theorem dX0_isSameStation_32 : decode cX0_isSameStation 32 = .ok (.iconst 2, 1) := by decide +kernel
theorem dX0_isSameStation_33 : decode cX0_isSameStation 33 = .ok (.invokevirtual 48, 3) := by decide +kernel
theorem dX0_isSameStation_36 : decode cX0_isSameStation 36 = .ok (.invokevirtual 51, 3) := by decide +kernel
theorem dX0_isSameStation_39 : decode cX0_isSameStation 39 = .ok (.ifCond .eq 7, 3) := by decide +kernel
theorem dX0_isSameStation_42 : decode cX0_isSameStation 42 = .ok (.iconst 1, 1) := by decide +kernel
theorem dX0_isSameStation_43 : decode cX0_isSameStation 43 = .ok (.goto 4, 3) := by decide +kernel
theorem dX0_isSameStation_46 : decode cX0_isSameStation 46 = .ok (.iconst 0, 1) := by decide +kernel
theorem dX0_isSameStation_47 : decode cX0_isSameStation 47 = .ok (.ireturn, 1) := by decide +kernel
set_option maxRecDepth 20000 in
theorem ggX0_typeBits_X0_has : GoodIn wsX0_typeBits wsX0_has := goodIn_r _ [5, 6, 7, 8, 4, 9, 10, 11, 12] (by decide +kernel) (by decide +kernel)
set_option maxRecDepth 20000 in
theorem gX0_typeBits_X0_has : GoodIn wsX0_typeBits (wsV RX0 45 RX0 yX0_has wsX0_has) := goodIn_app (goodIn_of _ (by decide +kernel)) ggX0_typeBits_X0_has
theorem dX0_typeBits_0 : decode cX0_typeBits 0 = .ok (.iconst 0, 1) := by decide +kernel
theorem dX0_typeBits_1 : decode cX0_typeBits 1 = .ok (.istore_n 1, 1) := by decide +kernel
theorem dX0_typeBits_2 : decode cX0_typeBits 2 = .ok (.iconst 1, 1) := by decide +kernel
theorem dX0_typeBits_3 : decode cX0_typeBits 3 = .ok (.istore_n 2, 1) := by decide +kernel
theorem dX0_typeBits_4 : decode cX0_typeBits 4 = .ok (.iload_n 2, 1) := by decide +kernel
theorem dX0_typeBits_5 : decode cX0_typeBits 5 = .ok (.bipush 8, 2) := by decide +kernel
theorem dX0_typeBits_7 : decode cX0_typeBits 7 = .ok (.if_icmp .gt 23, 3) := by decide +kernel
theorem dX0_typeBits_10 : decode cX0_typeBits 10 = .ok (.aload_n 0, 1) := by decide +kernel
theorem dX0_typeBits_11 : decode cX0_typeBits 11 = .ok (.iload_n 2, 1) := by decide +kernel
theorem dX0_typeBits_12 : decode cX0_typeBits 12 = .ok (.invokevirtual 45, 3) := by decide +kernel
theorem dX0_typeBits_15 : decode cX0_typeBits 15 = .ok (.ifCond .eq 9, 3) := by decide +kernel
theorem dX0_typeBits_18 : decode cX0_typeBits 18 = .ok (.iload_n 1, 1) := by decide +kernel
theorem dX0_typeBits_19 : decode cX0_typeBits 19 = .ok (.iconst 1, 1) := by decide +kernel
theorem dX0_typeBits_20 : decode cX0_typeBits 20 = .ok (.iload_n 2, 1) := by decide +kernel
theorem dX0_typeBits_21 : decode cX0_typeBits 21 = .ok (.ishl, 1) := by decide +kernel
theorem dX0_typeBits_22 : decode cX0_typeBits 22 = .ok (.ior, 1) := by decide +kernel
theorem dX0_typeBits_23 : decode cX0_typeBits 23 = .ok (.istore_n 1, 1) := by decide +kernel
theorem dX0_typeBits_24 : decode cX0_typeBits 24 = .ok (.iinc 2 1, 3) := by decide +kernel
theorem dX0_typeBits_27 : decode cX0_typeBits 27 = .ok (.goto (-23), 3) := by decide +kernel
theorem dX0_typeBits_30 : decode cX0_typeBits 30 = .ok (.iload_n 1, 1) := by decide +kernel
theorem dX0_typeBits_31 : decode cX0_typeBits 31 = .ok (.ireturn, 1) := by decide +kernel
set_option maxRecDepth 20000 in
theorem ggX1_init_X0_init : GoodIn wsX1_init wsX0_init := goodIn_r _ [10, 11, 2, 3, 12, 13, 14, 15, 16, 17, 18, 6, 19, 20, 21, 22, 23, 24, 25] (by decide +kernel) (by decide +kernel)
set_option maxRecDepth 20000 in
theorem gX1_init_X0_init : GoodIn wsX1_init (wsX0_init) := ggX1_init_X0_init
theorem dX1_init_0 : decode cX1_init 0 = .ok (.aload_n 0, 1) := by decide +kernel
theorem dX1_init_1 : decode cX1_init 1 = .ok (.invokespecial 3, 3) := by decide +kernel
theorem dX1_init_4 : decode cX1_init 4 = .ok (.aload_n 0, 1) := by decide +kernel
theorem dX1_init_5 : decode cX1_init 5 = .ok (.new 9, 3) := by decide +kernel
theorem dX1_init_8 : decode cX1_init 8 = .ok (.dup, 1) := by decide +kernel
theorem dX1_init_9 : decode cX1_init 9 = .ok (.invokespecial 11, 3) := by decide +kernel
theorem dX1_init_12 : decode cX1_init 12 = .ok (.putfield 12, 3) := by decide +kernel
theorem dX1_init_15 : decode cX1_init 15 = .ok (.return_, 1) := by decide +kernel
theorem dX1_contents_0 : decode cX1_contents 0 = .ok (.aload_n 0, 1) := by decide +kernel
theorem dX1_contents_1 : decode cX1_contents 1 = .ok (.getfield 12, 3) := by decide +kernel
theorem dX1_contents_4 : decode cX1_contents 4 = .ok (.areturn, 1) := by decide +kernel
theorem dX1_held_0 : decode cX1_held 0 = .ok (.aload_n 0, 1) := by decide +kernel
theorem dX1_held_1 : decode cX1_held 1 = .ok (.getfield 18, 3) := by decide +kernel
theorem dX1_held_4 : decode cX1_held 4 = .ok (.ireturn, 1) := by decide +kernel
theorem dX1_useNext_0 : decode cX1_useNext 0 = .ok (.aload_n 0, 1) := by decide +kernel
theorem dX1_useNext_1 : decode cX1_useNext 1 = .ok (.aload_n 1, 1) := by decide +kernel
theorem dX1_useNext_2 : decode cX1_useNext 2 = .ok (.putfield 12, 3) := by decide +kernel
theorem dX1_useNext_5 : decode cX1_useNext 5 = .ok (.return_, 1) := by decide +kernel
set_option maxRecDepth 20000 in
theorem ggX1_read_X0_clear : GoodIn wsX1_read wsX0_clear := goodIn_r _ [6, 7, 8, 9, 10, 11, 59, 60] (by decide +kernel) (by decide +kernel)
set_option maxRecDepth 20000 in
theorem gX1_read_X0_clear : GoodIn wsX1_read (wsV RX1 22 RX0 yX0_clear wsX0_clear) := goodIn_app (goodIn_of _ (by decide +kernel)) ggX1_read_X0_clear
set_option maxRecDepth 20000 in
theorem ggX1_read_X1_pairAt : GoodIn wsX1_read wsX1_pairAt := goodIn_r _ [15] (by decide +kernel) (by decide +kernel)
set_option maxRecDepth 20000 in
theorem gX1_read_X1_pairAt : GoodIn wsX1_read (va_wsS RX1 25 yX1_pairAt wsX1_pairAt) := goodIn_app (goodIn_of _ (by decide +kernel)) ggX1_read_X1_pairAt
set_option maxRecDepth 20000 in
theorem ggX1_read_X1_faultOfPart : GoodIn wsX1_read wsX1_faultOfPart := goodIn_r _ [19, 1, 20, 21, 14, 22, 23, 24, 25, 26, 27, 28, 29, 30, 31, 5, 32, 33, 34, 35, 36, 7, 57, 58, 59, 60] (by decide +kernel) (by decide +kernel)
set_option maxRecDepth 20000 in
theorem gX1_read_X1_faultOfPart : GoodIn wsX1_read (wsV RX1 29 RX1 yX1_faultOfPart wsX1_faultOfPart) := goodIn_app (goodIn_of _ (by decide +kernel)) ggX1_read_X1_faultOfPart
set_option maxRecDepth 20000 in
theorem ggX1_read_X1_takePart : GoodIn wsX1_read wsX1_takePart := goodIn_r _ [40, 41, 1, 12, 13, 14, 15, 42, 43, 44, 5, 45, 46, 47, 48, 49, 50, 7, 51, 52, 53, 26, 27, 28, 54, 55, 56, 57, 58, 59, 60] (by decide +kernel) (by decide +kernel)
set_option maxRecDepth 20000 in
theorem gX1_read_X1_takePart : GoodIn wsX1_read (wsV RX1 33 RX1 yX1_takePart wsX1_takePart) := goodIn_app (goodIn_of _ (by decide +kernel)) ggX1_read_X1_takePart
theorem dX1_read_0 : decode cX1_read 0 = .ok (.aload_n 0, 1) := by decide +kernel
theorem dX1_read_1 : decode cX1_read 1 = .ok (.getfield 12, 3) := by decide +kernel
theorem dX1_read_4 : decode cX1_read 4 = .ok (.invokevirtual 22, 3) := by decide +kernel
theorem dX1_read_7 : decode cX1_read 7 = .ok (.iconst 0, 1) := by decide +kernel
theorem dX1_read_8 : decode cX1_read 8 = .ok (.istore_n 3, 1) := by decide +kernel
theorem dX1_read_9 : decode cX1_read 9 = .ok (.iconst 0, 1) := by decide +kernel
theorem dX1_read_10 : decode cX1_read 10 = .ok (.istore 4, 2) := by decide +kernel
theorem dX1_read_12 : decode cX1_read 12 = .ok (.iload 4, 2) := by decide +kernel
theorem dX1_read_14 : decode cX1_read 14 = .ok (.sipush 350, 3) := by decide +kernel
theorem dX1_read_17 : decode cX1_read 17 = .ok (.if_icmp .gt 91, 3) := by decide +kernel
theorem dX1_read_20 : decode cX1_read 20 = .ok (.iload_n 2, 1) := by decide +kernel
theorem dX1_read_21 : decode cX1_read 21 = .ok (.iload_n 3, 1) := by decide +kernel
theorem dX1_read_22 : decode cX1_read 22 = .ok (.isub, 1) := by decide +kernel
theorem dX1_read_23 : decode cX1_read 23 = .ok (.iconst 2, 1) := by decide +kernel
theorem dX1_read_24 : decode cX1_read 24 = .ok (.isub, 1) := by decide +kernel
theorem dX1_read_25 : decode cX1_read 25 = .ok (.istore 5, 2) := by decide +kernel
theorem dX1_read_27 : decode cX1_read 27 = .ok (.iload 5, 2) := by decide +kernel
theorem dX1_read_29 : decode cX1_read 29 = .ok (.ifCond .ge 5, 3) := by decide +kernel
theorem dX1_read_32 : decode cX1_read 32 = .ok (.iconst 1, 1) := by decide +kernel
theorem dX1_read_33 : decode cX1_read 33 = .ok (.ireturn, 1) := by decide +kernel
theorem dX1_read_34 : decode cX1_read 34 = .ok (.aload_n 1, 1) := by decide +kernel
theorem dX1_read_35 : decode cX1_read 35 = .ok (.iload_n 3, 1) := by decide +kernel
theorem dX1_read_36 : decode cX1_read 36 = .ok (.invokestatic 25, 3) := by decide +kernel
theorem dX1_read_39 : decode cX1_read 39 = .ok (.istore 6, 2) := by decide +kernel
theorem dX1_read_41 : decode cX1_read 41 = .ok (.iload 6, 2) := by decide +kernel
theorem dX1_read_43 : decode cX1_read 43 = .ok (.bipush 9, 2) := by decide +kernel
theorem dX1_read_45 : decode cX1_read 45 = .ok (.ishr, 1) := by decide +kernel
theorem dX1_read_46 : decode cX1_read 46 = .ok (.istore 7, 2) := by decide +kernel
theorem dX1_read_48 : decode cX1_read 48 = .ok (.iload 6, 2) := by decide +kernel
theorem dX1_read_50 : decode cX1_read 50 = .ok (.sipush 511, 3) := by decide +kernel
theorem dX1_read_53 : decode cX1_read 53 = .ok (.iand, 1) := by decide +kernel
theorem dX1_read_54 : decode cX1_read 54 = .ok (.istore 8, 2) := by decide +kernel
theorem dX1_read_56 : decode cX1_read 56 = .ok (.aload_n 0, 1) := by decide +kernel
theorem dX1_read_57 : decode cX1_read 57 = .ok (.iload 4, 2) := by decide +kernel
theorem dX1_read_59 : decode cX1_read 59 = .ok (.iload 7, 2) := by decide +kernel
theorem dX1_read_61 : decode cX1_read 61 = .ok (.iload 8, 2) := by decide +kernel
theorem dX1_read_63 : decode cX1_read 63 = .ok (.iload 5, 2) := by decide +kernel
theorem dX1_read_65 : decode cX1_read 65 = .ok (.invokevirtual 29, 3) := by decide +kernel
theorem dX1_read_68 : decode cX1_read 68 = .ok (.istore 9, 2) := by decide +kernel
theorem dX1_read_70 : decode cX1_read 70 = .ok (.iload 9, 2) := by decide +kernel
theorem dX1_read_72 : decode cX1_read 72 = .ok (.ifCond .ne 8, 3) := by decide +kernel
theorem dX1_read_75 : decode cX1_read 75 = .ok (.iload 7, 2) := by decide +kernel
theorem dX1_read_77 : decode cX1_read 77 = .ok (.ifCond .ne 6, 3) := by decide +kernel
theorem dX1_read_80 : decode cX1_read 80 = .ok (.iload 9, 2) := by decide +kernel
theorem dX1_read_82 : decode cX1_read 82 = .ok (.ireturn, 1) := by decide +kernel
theorem dX1_read_83 : decode cX1_read 83 = .ok (.aload_n 0, 1) := by decide +kernel
theorem dX1_read_84 : decode cX1_read 84 = .ok (.iload 7, 2) := by decide +kernel
theorem dX1_read_86 : decode cX1_read 86 = .ok (.aload_n 1, 1) := by decide +kernel
theorem dX1_read_87 : decode cX1_read 87 = .ok (.iload_n 3, 1) := by decide +kernel
theorem dX1_read_88 : decode cX1_read 88 = .ok (.iconst 2, 1) := by decide +kernel
theorem dX1_read_89 : decode cX1_read 89 = .ok (.iadd, 1) := by decide +kernel
theorem dX1_read_90 : decode cX1_read 90 = .ok (.iload 8, 2) := by decide +kernel
theorem dX1_read_92 : decode cX1_read 92 = .ok (.invokevirtual 33, 3) := by decide +kernel
theorem dX1_read_95 : decode cX1_read 95 = .ok (.iload_n 3, 1) := by decide +kernel
theorem dX1_read_96 : decode cX1_read 96 = .ok (.iconst 2, 1) := by decide +kernel
theorem dX1_read_97 : decode cX1_read 97 = .ok (.iload 8, 2) := by decide +kernel
theorem dX1_read_99 : decode cX1_read 99 = .ok (.iadd, 1) := by decide +kernel
theorem dX1_read_100 : decode cX1_read 100 = .ok (.iadd, 1) := by decide +kernel
theorem dX1_read_101 : decode cX1_read 101 = .ok (.istore_n 3, 1) := by decide +kernel
theorem dX1_read_102 : decode cX1_read 102 = .ok (.iinc 4 1, 3) := by decide +kernel
theorem dX1_read_105 : decode cX1_read 105 = .ok (.goto (-93), 3) := by decide +kernel
theorem dX1_read_108 : decode cX1_read 108 = .ok (.iconst 1, 1) := by decide +kernel
theorem dX1_read_109 : decode cX1_read 109 = .ok (.ireturn, 1) := by decide +kernel
set_option maxRecDepth 20000 in
theorem ggX1_faultOfPart_X1_isOutOfOrder : GoodIn wsX1_faultOfPart wsX1_isOutOfOrder := goodIn_r _ [5] (by decide +kernel) (by decide +kernel)
set_option maxRecDepth 20000 in
theorem gX1_faultOfPart_X1_isOutOfOrder : GoodIn wsX1_faultOfPart (va_wsS RX1 37 yX1_isOutOfOrder wsX1_isOutOfOrder) := goodIn_app (goodIn_of _ (by decide +kernel)) ggX1_faultOfPart_X1_isOutOfOrder
set_option maxRecDepth 20000 in
theorem ggX1_faultOfPart_X1_isWrongSize : GoodIn wsX1_faultOfPart wsX1_isWrongSize := goodIn_r _ [8, 9, 10, 11] (by decide +kernel) (by decide +kernel)
set_option maxRecDepth 20000 in
theorem gX1_faultOfPart_X1_isWrongSize : GoodIn wsX1_faultOfPart (va_wsS RX1 41 yX1_isWrongSize wsX1_isWrongSize) := goodIn_app (goodIn_of _ (by decide +kernel)) ggX1_faultOfPart_X1_isWrongSize
set_option maxRecDepth 20000 in
theorem ggX1_faultOfPart_X6_isMore : GoodIn wsX1_faultOfPart wsX6_isMore := goodIn_r _ [11] (by decide +kernel) (by decide +kernel)
set_option maxRecDepth 20000 in
theorem gX1_faultOfPart_X6_isMore_n44 : GoodIn wsX1_faultOfPart (wsX6_isMore) := ggX1_faultOfPart_X6_isMore
set_option maxRecDepth 20000 in
theorem ggX1_faultOfPart_X0_has : GoodIn wsX1_faultOfPart wsX0_has := goodIn_r _ [16, 17, 18, 19, 15, 20, 21, 24, 25] (by decide +kernel) (by decide +kernel)
set_option maxRecDepth 20000 in
theorem gX1_faultOfPart_X0_has : GoodIn wsX1_faultOfPart (wsV RX1 48 RX0 yX0_has wsX0_has) := goodIn_app (goodIn_of _ (by decide +kernel)) ggX1_faultOfPart_X0_has
theorem dX1_faultOfPart_0 : decode cX1_faultOfPart 0 = .ok (.iload_n 1, 1) := by decide +kernel
theorem dX1_faultOfPart_1 : decode cX1_faultOfPart 1 = .ok (.iload_n 2, 1) := by decide +kernel
theorem dX1_faultOfPart_2 : decode cX1_faultOfPart 2 = .ok (.invokestatic 37, 3) := by decide +kernel
theorem dX1_faultOfPart_5 : decode cX1_faultOfPart 5 = .ok (.ifCond .eq 5, 3) := by decide +kernel
theorem dX1_faultOfPart_8 : decode cX1_faultOfPart 8 = .ok (.iconst 2, 1) := by decide +kernel
theorem dX1_faultOfPart_9 : decode cX1_faultOfPart 9 = .ok (.ireturn, 1) := by decide +kernel
theorem dX1_faultOfPart_10 : decode cX1_faultOfPart 10 = .ok (.iload_n 2, 1) := by decide +kernel
theorem dX1_faultOfPart_11 : decode cX1_faultOfPart 11 = .ok (.iload_n 3, 1) := by decide +kernel
theorem dX1_faultOfPart_12 : decode cX1_faultOfPart 12 = .ok (.invokestatic 41, 3) := by decide +kernel
theorem dX1_faultOfPart_15 : decode cX1_faultOfPart 15 = .ok (.ifCond .eq 5, 3) := by decide +kernel
theorem dX1_faultOfPart_18 : decode cX1_faultOfPart 18 = .ok (.iconst 3, 1) := by decide +kernel
theorem dX1_faultOfPart_19 : decode cX1_faultOfPart 19 = .ok (.ireturn, 1) := by decide +kernel
theorem dX1_faultOfPart_20 : decode cX1_faultOfPart 20 = .ok (.iload_n 3, 1) := by decide +kernel
theorem dX1_faultOfPart_21 : decode cX1_faultOfPart 21 = .ok (.iload 4, 2) := by decide +kernel
theorem dX1_faultOfPart_23 : decode cX1_faultOfPart 23 = .ok (.if_icmp .le 5, 3) := by decide +kernel
theorem dX1_faultOfPart_26 : decode cX1_faultOfPart 26 = .ok (.iconst 1, 1) := by decide +kernel
theorem dX1_faultOfPart_27 : decode cX1_faultOfPart 27 = .ok (.ireturn, 1) := by decide +kernel
theorem dX1_faultOfPart_28 : decode cX1_faultOfPart 28 = .ok (.iload_n 2, 1) := by decide +kernel
theorem dX1_faultOfPart_29 : decode cX1_faultOfPart 29 = .ok (.invokestatic 44, 3) := by decide +kernel
theorem dX1_faultOfPart_32 : decode cX1_faultOfPart 32 = .ok (.ifCond .eq 18, 3) := by decide +kernel
theorem dX1_faultOfPart_35 : decode cX1_faultOfPart 35 = .ok (.aload_n 0, 1) := by decide +kernel
theorem dX1_faultOfPart_36 : decode cX1_faultOfPart 36 = .ok (.getfield 12, 3) := by decide +kernel
theorem dX1_faultOfPart_39 : decode cX1_faultOfPart 39 = .ok (.iload_n 2, 1) := by decide +kernel
theorem dX1_faultOfPart_40 : decode cX1_faultOfPart 40 = .ok (.invokevirtual 48, 3) := by decide +kernel
theorem dX1_faultOfPart_43 : decode cX1_faultOfPart 43 = .ok (.ifCond .eq 7, 3) := by decide +kernel
theorem dX1_faultOfPart_46 : decode cX1_faultOfPart 46 = .ok (.iconst 4, 1) := by decide +kernel
theorem dX1_faultOfPart_47 : decode cX1_faultOfPart 47 = .ok (.goto 4, 3) := by decide +kernel
theorem dX1_faultOfPart_50 : decode cX1_faultOfPart 50 = .ok (.iconst 0, 1) := by decide +kernel
theorem dX1_faultOfPart_51 : decode cX1_faultOfPart 51 = .ok (.ireturn, 1) := by decide +kernel
theorem dX1_isOutOfOrder_0 : decode cX1_isOutOfOrder 0 = .ok (.iload_n 0, 1) := by decide +kernel
theorem dX1_isOutOfOrder_1 : decode cX1_isOutOfOrder 1 = .ok (.iconst 3, 1) := by decide +kernel
theorem dX1_isOutOfOrder_2 : decode cX1_isOutOfOrder 2 = .ok (.if_icmp .ge 16, 3) := by decide +kernel
theorem dX1_isOutOfOrder_5 : decode cX1_isOutOfOrder 5 = .ok (.iload_n 1, 1) := by decide +kernel
theorem dX1_isOutOfOrder_6 : decode cX1_isOutOfOrder 6 = .ok (.iload_n 0, 1) := by decide +kernel
theorem dX1_isOutOfOrder_7 : decode cX1_isOutOfOrder 7 = .ok (.iconst 1, 1) := by decide +kernel
theorem dX1_isOutOfOrder_8 : decode cX1_isOutOfOrder 8 = .ok (.iadd, 1) := by decide +kernel
theorem dX1_isOutOfOrder_9 : decode cX1_isOutOfOrder 9 = .ok (.if_icmp .eq 7, 3) := by decide +kernel
theorem dX1_isOutOfOrder_12 : decode cX1_isOutOfOrder 12 = .ok (.iconst 1, 1) := by decide +kernel
theorem dX1_isOutOfOrder_13 : decode cX1_isOutOfOrder 13 = .ok (.goto 4, 3) := by decide +kernel
theorem dX1_isOutOfOrder_16 : decode cX1_isOutOfOrder 16 = .ok (.iconst 0, 1) := by decide +kernel
theorem dX1_isOutOfOrder_17 : decode cX1_isOutOfOrder 17 = .ok (.ireturn, 1) := by decide +kernel
theorem dX1_isOutOfOrder_18 : decode cX1_isOutOfOrder 18 = .ok (.iload_n 1, 1) := by decide +kernel
theorem dX1_isOutOfOrder_19 : decode cX1_isOutOfOrder 19 = .ok (.iconst 1, 1) := by decide +kernel
theorem dX1_isOutOfOrder_20 : decode cX1_isOutOfOrder 20 = .ok (.if_icmp .lt 12, 3) := by decide +kernel
theorem dX1_isOutOfOrder_23 : decode cX1_isOutOfOrder 23 = .ok (.iload_n 1, 1) := by decide +kernel
theorem dX1_isOutOfOrder_24 : decode cX1_isOutOfOrder 24 = .ok (.iconst 3, 1) := by decide +kernel
theorem dX1_isOutOfOrder_25 : decode cX1_isOutOfOrder 25 = .ok (.if_icmp .gt 7, 3) := by decide +kernel
theorem dX1_isOutOfOrder_28 : decode cX1_isOutOfOrder 28 = .ok (.iconst 1, 1) := by decide +kernel
theorem dX1_isOutOfOrder_29 : decode cX1_isOutOfOrder 29 = .ok (.goto 4, 3) := by decide +kernel
theorem dX1_isOutOfOrder_32 : decode cX1_isOutOfOrder 32 = .ok (.iconst 0, 1) := by decide +kernel
theorem dX1_isOutOfOrder_33 : decode cX1_isOutOfOrder 33 = .ok (.ireturn, 1) := by decide +kernel
set_option maxRecDepth 20000 in
theorem ggX1_isWrongSize_X6_isMore : GoodIn wsX1_isWrongSize wsX6_isMore := goodIn_r _ [3] (by decide +kernel) (by decide +kernel)
set_option maxRecDepth 20000 in
theorem gX1_isWrongSize_X6_isMore_n44 : GoodIn wsX1_isWrongSize (wsX6_isMore) := ggX1_isWrongSize_X6_isMore
theorem dX1_isWrongSize_0 : decode cX1_isWrongSize 0 = .ok (.iload_n 0, 1) := by decide +kernel
theorem dX1_isWrongSize_1 : decode cX1_isWrongSize 1 = .ok (.ifCond .ne 13, 3) := by decide +kernel
theorem dX1_isWrongSize_4 : decode cX1_isWrongSize 4 = .ok (.iload_n 1, 1) := by decide +kernel
theorem dX1_isWrongSize_5 : decode cX1_isWrongSize 5 = .ok (.ifCond .eq 7, 3) := by decide +kernel
theorem dX1_isWrongSize_8 : decode cX1_isWrongSize 8 = .ok (.iconst 1, 1) := by decide +kernel
theorem dX1_isWrongSize_9 : decode cX1_isWrongSize 9 = .ok (.goto 4, 3) := by decide +kernel
theorem dX1_isWrongSize_12 : decode cX1_isWrongSize 12 = .ok (.iconst 0, 1) := by decide +kernel
theorem dX1_isWrongSize_13 : decode cX1_isWrongSize 13 = .ok (.ireturn, 1) := by decide +kernel
theorem dX1_isWrongSize_14 : decode cX1_isWrongSize 14 = .ok (.iload_n 0, 1) := by decide +kernel
theorem dX1_isWrongSize_15 : decode cX1_isWrongSize 15 = .ok (.iconst 1, 1) := by decide +kernel
theorem dX1_isWrongSize_16 : decode cX1_isWrongSize 16 = .ok (.if_icmp .eq 8, 3) := by decide +kernel
theorem dX1_isWrongSize_19 : decode cX1_isWrongSize 19 = .ok (.iload_n 0, 1) := by decide +kernel
theorem dX1_isWrongSize_20 : decode cX1_isWrongSize 20 = .ok (.iconst 2, 1) := by decide +kernel
theorem dX1_isWrongSize_21 : decode cX1_isWrongSize 21 = .ok (.if_icmp .ne 20, 3) := by decide +kernel
theorem dX1_isWrongSize_24 : decode cX1_isWrongSize 24 = .ok (.iload_n 1, 1) := by decide +kernel
theorem dX1_isWrongSize_25 : decode cX1_isWrongSize 25 = .ok (.iconst 2, 1) := by decide +kernel
theorem dX1_isWrongSize_26 : decode cX1_isWrongSize 26 = .ok (.if_icmp .lt 9, 3) := by decide +kernel
theorem dX1_isWrongSize_29 : decode cX1_isWrongSize 29 = .ok (.iload_n 1, 1) := by decide +kernel
theorem dX1_isWrongSize_30 : decode cX1_isWrongSize 30 = .ok (.bipush 60, 2) := by decide +kernel
theorem dX1_isWrongSize_32 : decode cX1_isWrongSize 32 = .ok (.if_icmp .le 7, 3) := by decide +kernel
theorem dX1_isWrongSize_35 : decode cX1_isWrongSize 35 = .ok (.iconst 1, 1) := by decide +kernel
theorem dX1_isWrongSize_36 : decode cX1_isWrongSize 36 = .ok (.goto 4, 3) := by decide +kernel
theorem dX1_isWrongSize_39 : decode cX1_isWrongSize 39 = .ok (.iconst 0, 1) := by decide +kernel
theorem dX1_isWrongSize_40 : decode cX1_isWrongSize 40 = .ok (.ireturn, 1) := by decide +kernel
theorem dX1_isWrongSize_41 : decode cX1_isWrongSize 41 = .ok (.iload_n 0, 1) := by decide +kernel
theorem dX1_isWrongSize_42 : decode cX1_isWrongSize 42 = .ok (.iconst 3, 1) := by decide +kernel
theorem dX1_isWrongSize_43 : decode cX1_isWrongSize 43 = .ok (.if_icmp .ne 14, 3) := by decide +kernel
theorem dX1_isWrongSize_46 : decode cX1_isWrongSize 46 = .ok (.iload_n 1, 1) := by decide +kernel
theorem dX1_isWrongSize_47 : decode cX1_isWrongSize 47 = .ok (.iconst 2, 1) := by decide +kernel
theorem dX1_isWrongSize_48 : decode cX1_isWrongSize 48 = .ok (.if_icmp .ge 7, 3) := by decide +kernel
theorem dX1_isWrongSize_51 : decode cX1_isWrongSize 51 = .ok (.iconst 1, 1) := by decide +kernel
theorem dX1_isWrongSize_52 : decode cX1_isWrongSize 52 = .ok (.goto 4, 3) := by decide +kernel
theorem dX1_isWrongSize_55 : decode cX1_isWrongSize 55 = .ok (.iconst 0, 1) := by decide +kernel
theorem dX1_isWrongSize_56 : decode cX1_isWrongSize 56 = .ok (.ireturn, 1) := by decide +kernel
theorem dX1_isWrongSize_57 : decode cX1_isWrongSize 57 = .ok (.iload_n 0, 1) := by decide +kernel
theorem dX1_isWrongSize_58 : decode cX1_isWrongSize 58 = .ok (.invokestatic 44, 3) := by decide +kernel
theorem dX1_isWrongSize_61 : decode cX1_isWrongSize 61 = .ok (.ifCond .eq 13, 3) := by decide +kernel
theorem dX1_isWrongSize_64 : decode cX1_isWrongSize 64 = .ok (.iload_n 1, 1) := by decide +kernel
theorem dX1_isWrongSize_65 : decode cX1_isWrongSize 65 = .ok (.bipush 60, 2) := by decide +kernel
theorem dX1_isWrongSize_67 : decode cX1_isWrongSize 67 = .ok (.if_icmp .le 7, 3) := by decide +kernel
theorem dX1_isWrongSize_70 : decode cX1_isWrongSize 70 = .ok (.iconst 1, 1) := by decide +kernel
theorem dX1_isWrongSize_71 : decode cX1_isWrongSize 71 = .ok (.goto 4, 3) := by decide +kernel
theorem dX1_isWrongSize_74 : decode cX1_isWrongSize 74 = .ok (.iconst 0, 1) := by decide +kernel
theorem dX1_isWrongSize_75 : decode cX1_isWrongSize 75 = .ok (.ireturn, 1) := by decide +kernel
set_option maxRecDepth 20000 in
theorem ggX1_takePart_X1_pairAt : GoodIn wsX1_takePart wsX1_pairAt := goodIn_r _ [6] (by decide +kernel) (by decide +kernel)
set_option maxRecDepth 20000 in
theorem gX1_takePart_X1_pairAt : GoodIn wsX1_takePart (va_wsS RX1 25 yX1_pairAt wsX1_pairAt) := goodIn_app (goodIn_of _ (by decide +kernel)) ggX1_takePart_X1_pairAt
set_option maxRecDepth 20000 in
theorem ggX1_takePart_X0_keep : GoodIn wsX1_takePart wsX0_keep := goodIn_r _ [11, 12, 13, 14, 15, 16, 17, 18, 19, 10, 20, 21, 22, 23, 24, 25, 26, 29, 30] (by decide +kernel) (by decide +kernel)
set_option maxRecDepth 20000 in
theorem gX1_takePart_X0_keep : GoodIn wsX1_takePart (wsV RX1 51 RX0 yX0_keep wsX0_keep) := goodIn_app (goodIn_of _ (by decide +kernel)) ggX1_takePart_X0_keep
theorem dX1_takePart_0 : decode cX1_takePart 0 = .ok (.iload_n 1, 1) := by decide +kernel
theorem dX1_takePart_1 : decode cX1_takePart 1 = .ok (.iconst 3, 1) := by decide +kernel
theorem dX1_takePart_2 : decode cX1_takePart 2 = .ok (.if_icmp .ne 15, 3) := by decide +kernel
theorem dX1_takePart_5 : decode cX1_takePart 5 = .ok (.aload_n 0, 1) := by decide +kernel
theorem dX1_takePart_6 : decode cX1_takePart 6 = .ok (.aload_n 2, 1) := by decide +kernel
theorem dX1_takePart_7 : decode cX1_takePart 7 = .ok (.iload_n 3, 1) := by decide +kernel
theorem dX1_takePart_8 : decode cX1_takePart 8 = .ok (.invokestatic 25, 3) := by decide +kernel
theorem dX1_takePart_11 : decode cX1_takePart 11 = .ok (.putfield 18, 3) := by decide +kernel
theorem dX1_takePart_14 : decode cX1_takePart 14 = .ok (.goto 15, 3) := by decide +kernel
theorem dX1_takePart_17 : decode cX1_takePart 17 = .ok (.aload_n 0, 1) := by decide +kernel
theorem dX1_takePart_18 : decode cX1_takePart 18 = .ok (.getfield 12, 3) := by decide +kernel
theorem dX1_takePart_21 : decode cX1_takePart 21 = .ok (.iload_n 1, 1) := by decide +kernel
theorem dX1_takePart_22 : decode cX1_takePart 22 = .ok (.aload_n 2, 1) := by decide +kernel
theorem dX1_takePart_23 : decode cX1_takePart 23 = .ok (.iload_n 3, 1) := by decide +kernel
theorem dX1_takePart_24 : decode cX1_takePart 24 = .ok (.iload 4, 2) := by decide +kernel
theorem dX1_takePart_26 : decode cX1_takePart 26 = .ok (.invokevirtual 51, 3) := by decide +kernel
theorem dX1_takePart_29 : decode cX1_takePart 29 = .ok (.return_, 1) := by decide +kernel
theorem dX1_pairAt_0 : decode cX1_pairAt 0 = .ok (.iload_n 1, 1) := by decide +kernel
theorem dX1_pairAt_1 : decode cX1_pairAt 1 = .ok (.ifCond .lt 11, 3) := by decide +kernel
theorem dX1_pairAt_4 : decode cX1_pairAt 4 = .ok (.iload_n 1, 1) := by decide +kernel
theorem dX1_pairAt_5 : decode cX1_pairAt 5 = .ok (.iconst 1, 1) := by decide +kernel
theorem dX1_pairAt_6 : decode cX1_pairAt 6 = .ok (.iadd, 1) := by decide +kernel
theorem dX1_pairAt_7 : decode cX1_pairAt 7 = .ok (.aload_n 0, 1) := by decide +kernel
theorem dX1_pairAt_8 : decode cX1_pairAt 8 = .ok (.arraylength, 1) := by decide +kernel
theorem dX1_pairAt_9 : decode cX1_pairAt 9 = .ok (.if_icmp .lt 5, 3) := by decide +kernel
theorem dX1_pairAt_12 : decode cX1_pairAt 12 = .ok (.iconst 0, 1) := by decide +kernel
theorem dX1_pairAt_13 : decode cX1_pairAt 13 = .ok (.ireturn, 1) := by decide +kernel
theorem dX1_pairAt_14 : decode cX1_pairAt 14 = .ok (.aload_n 0, 1) := by decide +kernel
theorem dX1_pairAt_15 : decode cX1_pairAt 15 = .ok (.iload_n 1, 1) := by decide +kernel
theorem dX1_pairAt_16 : decode cX1_pairAt 16 = .ok (.baload, 1) := by decide +kernel
theorem dX1_pairAt_17 : decode cX1_pairAt 17 = .ok (.sipush 255, 3) := by decide +kernel
theorem dX1_pairAt_20 : decode cX1_pairAt 20 = .ok (.iand, 1) := by decide +kernel
theorem dX1_pairAt_21 : decode cX1_pairAt 21 = .ok (.bipush 8, 2) := by decide +kernel
theorem dX1_pairAt_23 : decode cX1_pairAt 23 = .ok (.ishl, 1) := by decide +kernel
theorem dX1_pairAt_24 : decode cX1_pairAt 24 = .ok (.aload_n 0, 1) := by decide +kernel
theorem dX1_pairAt_25 : decode cX1_pairAt 25 = .ok (.iload_n 1, 1) := by decide +kernel
theorem dX1_pairAt_26 : decode cX1_pairAt 26 = .ok (.iconst 1, 1) := by decide +kernel
theorem dX1_pairAt_27 : decode cX1_pairAt 27 = .ok (.iadd, 1) := by decide +kernel
theorem dX1_pairAt_28 : decode cX1_pairAt 28 = .ok (.baload, 1) := by decide +kernel
theorem dX1_pairAt_29 : decode cX1_pairAt 29 = .ok (.sipush 255, 3) := by decide +kernel
theorem dX1_pairAt_32 : decode cX1_pairAt 32 = .ok (.iand, 1) := by decide +kernel
theorem dX1_pairAt_33 : decode cX1_pairAt 33 = .ok (.ior, 1) := by decide +kernel
theorem dX1_pairAt_34 : decode cX1_pairAt 34 = .ok (.ireturn, 1) := by decide +kernel
set_option maxRecDepth 20000 in
theorem ggX2_init_X0_init : GoodIn wsX2_init wsX0_init := goodIn_r _ [10, 11, 2, 3, 12, 13, 14, 15, 16, 17, 18, 6, 19, 20, 21, 22, 23, 24, 25] (by decide +kernel) (by decide +kernel)
set_option maxRecDepth 20000 in
theorem gX2_init_X0_init : GoodIn wsX2_init (wsX0_init) := ggX2_init_X0_init
theorem dX2_init_0 : decode cX2_init 0 = .ok (.aload_n 0, 1) := by decide +kernel
theorem dX2_init_1 : decode cX2_init 1 = .ok (.invokespecial 3, 3) := by decide +kernel
theorem dX2_init_4 : decode cX2_init 4 = .ok (.aload_n 0, 1) := by decide +kernel
theorem dX2_init_5 : decode cX2_init 5 = .ok (.new 9, 3) := by decide +kernel
theorem dX2_init_8 : decode cX2_init 8 = .ok (.dup, 1) := by decide +kernel
theorem dX2_init_9 : decode cX2_init 9 = .ok (.invokespecial 11, 3) := by decide +kernel
theorem dX2_init_12 : decode cX2_init 12 = .ok (.putfield 12, 3) := by decide +kernel
theorem dX2_init_15 : decode cX2_init 15 = .ok (.return_, 1) := by decide +kernel
theorem dX2_contents_0 : decode cX2_contents 0 = .ok (.aload_n 0, 1) := by decide +kernel
theorem dX2_contents_1 : decode cX2_contents 1 = .ok (.getfield 12, 3) := by decide +kernel
theorem dX2_contents_4 : decode cX2_contents 4 = .ok (.areturn, 1) := by decide +kernel
theorem dX2_portOf_0 : decode cX2_portOf 0 = .ok (.aload_n 0, 1) := by decide +kernel
theorem dX2_portOf_1 : decode cX2_portOf 1 = .ok (.getfield 18, 3) := by decide +kernel
theorem dX2_portOf_4 : decode cX2_portOf 4 = .ok (.ireturn, 1) := by decide +kernel
theorem dX2_begin_0 : decode cX2_begin 0 = .ok (.aload_n 0, 1) := by decide +kernel
theorem dX2_begin_1 : decode cX2_begin 1 = .ok (.iload_n 1, 1) := by decide +kernel
theorem dX2_begin_2 : decode cX2_begin 2 = .ok (.putfield 18, 3) := by decide +kernel
theorem dX2_begin_5 : decode cX2_begin 5 = .ok (.aload_n 0, 1) := by decide +kernel
theorem dX2_begin_6 : decode cX2_begin 6 = .ok (.iconst 0, 1) := by decide +kernel
theorem dX2_begin_7 : decode cX2_begin 7 = .ok (.putfield 22, 3) := by decide +kernel
theorem dX2_begin_10 : decode cX2_begin 10 = .ok (.return_, 1) := by decide +kernel
theorem dX2_renew_0 : decode cX2_renew 0 = .ok (.aload_n 0, 1) := by decide +kernel
theorem dX2_renew_1 : decode cX2_renew 1 = .ok (.getfield 12, 3) := by decide +kernel
theorem dX2_renew_4 : decode cX2_renew 4 = .ok (.astore_n 3, 1) := by decide +kernel
theorem dX2_renew_5 : decode cX2_renew 5 = .ok (.aload_n 0, 1) := by decide +kernel
theorem dX2_renew_6 : decode cX2_renew 6 = .ok (.aload_n 1, 1) := by decide +kernel
theorem dX2_renew_7 : decode cX2_renew 7 = .ok (.putfield 12, 3) := by decide +kernel
theorem dX2_renew_10 : decode cX2_renew 10 = .ok (.aload_n 0, 1) := by decide +kernel
theorem dX2_renew_11 : decode cX2_renew 11 = .ok (.iload_n 2, 1) := by decide +kernel
theorem dX2_renew_12 : decode cX2_renew 12 = .ok (.putfield 25, 3) := by decide +kernel
theorem dX2_renew_15 : decode cX2_renew 15 = .ok (.aload_n 0, 1) := by decide +kernel
theorem dX2_renew_16 : decode cX2_renew 16 = .ok (.dup, 1) := by decide +kernel
theorem dX2_renew_17 : decode cX2_renew 17 = .ok (.getfield 22, 3) := by decide +kernel
theorem dX2_renew_20 : decode cX2_renew 20 = .ok (.iconst 1, 1) := by decide +kernel
theorem dX2_renew_21 : decode cX2_renew 21 = .ok (.iadd, 1) := by decide +kernel
theorem dX2_renew_22 : decode cX2_renew 22 = .ok (.putfield 22, 3) := by decide +kernel
theorem dX2_renew_25 : decode cX2_renew 25 = .ok (.aload_n 3, 1) := by decide +kernel
theorem dX2_renew_26 : decode cX2_renew 26 = .ok (.areturn, 1) := by decide +kernel
theorem dX2_passTick_0 : decode cX2_passTick 0 = .ok (.aload_n 0, 1) := by decide +kernel
theorem dX2_passTick_1 : decode cX2_passTick 1 = .ok (.dup, 1) := by decide +kernel
theorem dX2_passTick_2 : decode cX2_passTick 2 = .ok (.getfield 25, 3) := by decide +kernel
theorem dX2_passTick_5 : decode cX2_passTick 5 = .ok (.iconst 1, 1) := by decide +kernel
theorem dX2_passTick_6 : decode cX2_passTick 6 = .ok (.isub, 1) := by decide +kernel
theorem dX2_passTick_7 : decode cX2_passTick 7 = .ok (.putfield 25, 3) := by decide +kernel
theorem dX2_passTick_10 : decode cX2_passTick 10 = .ok (.aload_n 0, 1) := by decide +kernel
theorem dX2_passTick_11 : decode cX2_passTick 11 = .ok (.getfield 25, 3) := by decide +kernel
theorem dX2_passTick_14 : decode cX2_passTick 14 = .ok (.ifCond .gt 7, 3) := by decide +kernel
theorem dX2_passTick_17 : decode cX2_passTick 17 = .ok (.iconst 1, 1) := by decide +kernel
theorem dX2_passTick_18 : decode cX2_passTick 18 = .ok (.goto 4, 3) := by decide +kernel
theorem dX2_passTick_21 : decode cX2_passTick 21 = .ok (.iconst 0, 1) := by decide +kernel
theorem dX2_passTick_22 : decode cX2_passTick 22 = .ok (.ireturn, 1) := by decide +kernel
set_option maxRecDepth 20000 in
theorem ggX2_tellAbout_X0_typeBits : GoodIn wsX2_tellAbout wsX0_typeBits := goodIn_r _ [9, 10, 11, 12, 8, 13, 14, 15, 16, 17, 18, 23, 24] (by decide +kernel) (by decide +kernel)
set_option maxRecDepth 20000 in
theorem gX2_tellAbout_X0_typeBits : GoodIn wsX2_tellAbout (wsV RX2 28 RX0 yX0_typeBits wsX0_typeBits) := goodIn_app (goodIn_of _ (by decide +kernel)) ggX2_tellAbout_X0_typeBits
theorem dX2_tellAbout_0 : decode cX2_tellAbout 0 = .ok (.iload_n 1, 1) := by decide +kernel
theorem dX2_tellAbout_1 : decode cX2_tellAbout 1 = .ok (.tableswitch 54 0 3 #[31, 36, 41, 46], 31) := by decide +kernel
theorem dX2_tellAbout_32 : decode cX2_tellAbout 32 = .ok (.aload_n 0, 1) := by decide +kernel
theorem dX2_tellAbout_33 : decode cX2_tellAbout 33 = .ok (.getfield 18, 3) := by decide +kernel
theorem dX2_tellAbout_36 : decode cX2_tellAbout 36 = .ok (.ireturn, 1) := by decide +kernel
theorem dX2_tellAbout_37 : decode cX2_tellAbout 37 = .ok (.aload_n 0, 1) := by decide +kernel
theorem dX2_tellAbout_38 : decode cX2_tellAbout 38 = .ok (.getfield 25, 3) := by decide +kernel
theorem dX2_tellAbout_41 : decode cX2_tellAbout 41 = .ok (.ireturn, 1) := by decide +kernel
theorem dX2_tellAbout_42 : decode cX2_tellAbout 42 = .ok (.aload_n 0, 1) := by decide +kernel
theorem dX2_tellAbout_43 : decode cX2_tellAbout 43 = .ok (.getfield 22, 3) := by decide +kernel
theorem dX2_tellAbout_46 : decode cX2_tellAbout 46 = .ok (.ireturn, 1) := by decide +kernel
theorem dX2_tellAbout_47 : decode cX2_tellAbout 47 = .ok (.aload_n 0, 1) := by decide +kernel
theorem dX2_tellAbout_48 : decode cX2_tellAbout 48 = .ok (.getfield 12, 3) := by decide +kernel
theorem dX2_tellAbout_51 : decode cX2_tellAbout 51 = .ok (.invokevirtual 28, 3) := by decide +kernel
theorem dX2_tellAbout_54 : decode cX2_tellAbout 54 = .ok (.ireturn, 1) := by decide +kernel
theorem dX2_tellAbout_55 : decode cX2_tellAbout 55 = .ok (.iconst (-1), 1) := by decide +kernel
theorem dX2_tellAbout_56 : decode cX2_tellAbout 56 = .ok (.ireturn, 1) := by decide +kernel
set_option maxRecDepth 20000 in
theorem ggX3_init_X2_init : GoodIn wsX3_init wsX2_init := goodIn_r _ [9, 10, 2, 3, 11, 12, 13, 14, 15, 16, 17, 18, 19, 20, 21, 22, 23, 24, 25, 26, 27, 28, 29, 30, 37, 38, 33, 34, 35, 36] (by decide +kernel) (by decide +kernel)
set_option maxRecDepth 20000 in
theorem gX3_init_X2_init_n17 : GoodIn wsX3_init (wsX2_init) := ggX3_init_X2_init
theorem dX3_init_0 : decode cX3_init 0 = .ok (.aload_n 0, 1) := by decide +kernel
theorem dX3_init_1 : decode cX3_init 1 = .ok (.invokespecial 3, 3) := by decide +kernel
theorem dX3_init_4 : decode cX3_init 4 = .ok (.aload_n 0, 1) := by decide +kernel
theorem dX3_init_5 : decode cX3_init 5 = .ok (.bipush 12, 2) := by decide +kernel
theorem dX3_init_7 : decode cX3_init 7 = .ok (.anewarray 9, 3) := by decide +kernel
theorem dX3_init_10 : decode cX3_init 10 = .ok (.putfield 11, 3) := by decide +kernel
theorem dX3_init_13 : decode cX3_init 13 = .ok (.iconst 0, 1) := by decide +kernel
theorem dX3_init_14 : decode cX3_init 14 = .ok (.istore_n 1, 1) := by decide +kernel
theorem dX3_init_15 : decode cX3_init 15 = .ok (.iload_n 1, 1) := by decide +kernel
theorem dX3_init_16 : decode cX3_init 16 = .ok (.bipush 12, 2) := by decide +kernel
theorem dX3_init_18 : decode cX3_init 18 = .ok (.if_icmp .ge 22, 3) := by decide +kernel
theorem dX3_init_21 : decode cX3_init 21 = .ok (.aload_n 0, 1) := by decide +kernel
theorem dX3_init_22 : decode cX3_init 22 = .ok (.getfield 11, 3) := by decide +kernel
theorem dX3_init_25 : decode cX3_init 25 = .ok (.iload_n 1, 1) := by decide +kernel
theorem dX3_init_26 : decode cX3_init 26 = .ok (.new 9, 3) := by decide +kernel
theorem dX3_init_29 : decode cX3_init 29 = .ok (.dup, 1) := by decide +kernel
theorem dX3_init_30 : decode cX3_init 30 = .ok (.invokespecial 17, 3) := by decide +kernel
theorem dX3_init_33 : decode cX3_init 33 = .ok (.aastore, 1) := by decide +kernel
theorem dX3_init_34 : decode cX3_init 34 = .ok (.iinc 1 1, 3) := by decide +kernel
theorem dX3_init_37 : decode cX3_init 37 = .ok (.goto (-22), 3) := by decide +kernel
theorem dX3_init_40 : decode cX3_init 40 = .ok (.return_, 1) := by decide +kernel
theorem dX3_size_0 : decode cX3_size 0 = .ok (.aload_n 0, 1) := by decide +kernel
theorem dX3_size_1 : decode cX3_size 1 = .ok (.getfield 18, 3) := by decide +kernel
theorem dX3_size_4 : decode cX3_size 4 = .ok (.ireturn, 1) := by decide +kernel
theorem dX3_has_0 : decode cX3_has 0 = .ok (.iload_n 1, 1) := by decide +kernel
theorem dX3_has_1 : decode cX3_has 1 = .ok (.ifCond .lt 15, 3) := by decide +kernel
theorem dX3_has_4 : decode cX3_has 4 = .ok (.iload_n 1, 1) := by decide +kernel
theorem dX3_has_5 : decode cX3_has 5 = .ok (.aload_n 0, 1) := by decide +kernel
theorem dX3_has_6 : decode cX3_has 6 = .ok (.getfield 18, 3) := by decide +kernel
theorem dX3_has_9 : decode cX3_has 9 = .ok (.if_icmp .ge 7, 3) := by decide +kernel
theorem dX3_has_12 : decode cX3_has 12 = .ok (.iconst 1, 1) := by decide +kernel
theorem dX3_has_13 : decode cX3_has 13 = .ok (.goto 4, 3) := by decide +kernel
theorem dX3_has_16 : decode cX3_has 16 = .ok (.iconst 0, 1) := by decide +kernel
theorem dX3_has_17 : decode cX3_has 17 = .ok (.ireturn, 1) := by decide +kernel
theorem dX3_at_0 : decode cX3_at 0 = .ok (.aload_n 0, 1) := by decide +kernel
theorem dX3_at_1 : decode cX3_at 1 = .ok (.getfield 11, 3) := by decide +kernel
theorem dX3_at_4 : decode cX3_at 4 = .ok (.iload_n 1, 1) := by decide +kernel
theorem dX3_at_5 : decode cX3_at 5 = .ok (.aaload, 1) := by decide +kernel
theorem dX3_at_6 : decode cX3_at 6 = .ok (.areturn, 1) := by decide +kernel
set_option maxRecDepth 20000 in
theorem ggX3_sizeAt_X2_portOf : GoodIn wsX3_sizeAt wsX2_portOf := goodIn_r _ [7, 8, 11, 12, 13, 14] (by decide +kernel) (by decide +kernel)
set_option maxRecDepth 20000 in
theorem gX3_sizeAt_X2_portOf : GoodIn wsX3_sizeAt (wsV RX3 22 RX2 yX2_portOf wsX2_portOf) := goodIn_app (goodIn_of _ (by decide +kernel)) ggX3_sizeAt_X2_portOf
theorem dX3_sizeAt_0 : decode cX3_sizeAt 0 = .ok (.iconst 0, 1) := by decide +kernel
theorem dX3_sizeAt_1 : decode cX3_sizeAt 1 = .ok (.istore_n 2, 1) := by decide +kernel
theorem dX3_sizeAt_2 : decode cX3_sizeAt 2 = .ok (.iconst 0, 1) := by decide +kernel
theorem dX3_sizeAt_3 : decode cX3_sizeAt 3 = .ok (.istore_n 3, 1) := by decide +kernel
theorem dX3_sizeAt_4 : decode cX3_sizeAt 4 = .ok (.iload_n 3, 1) := by decide +kernel
theorem dX3_sizeAt_5 : decode cX3_sizeAt 5 = .ok (.aload_n 0, 1) := by decide +kernel
theorem dX3_sizeAt_6 : decode cX3_sizeAt 6 = .ok (.getfield 18, 3) := by decide +kernel
theorem dX3_sizeAt_9 : decode cX3_sizeAt 9 = .ok (.if_icmp .ge 25, 3) := by decide +kernel
theorem dX3_sizeAt_12 : decode cX3_sizeAt 12 = .ok (.aload_n 0, 1) := by decide +kernel
theorem dX3_sizeAt_13 : decode cX3_sizeAt 13 = .ok (.getfield 11, 3) := by decide +kernel
theorem dX3_sizeAt_16 : decode cX3_sizeAt 16 = .ok (.iload_n 3, 1) := by decide +kernel
theorem dX3_sizeAt_17 : decode cX3_sizeAt 17 = .ok (.aaload, 1) := by decide +kernel
theorem dX3_sizeAt_18 : decode cX3_sizeAt 18 = .ok (.invokevirtual 22, 3) := by decide +kernel
theorem dX3_sizeAt_21 : decode cX3_sizeAt 21 = .ok (.iload_n 1, 1) := by decide +kernel
theorem dX3_sizeAt_22 : decode cX3_sizeAt 22 = .ok (.if_icmp .ne 6, 3) := by decide +kernel
theorem dX3_sizeAt_25 : decode cX3_sizeAt 25 = .ok (.iinc 2 1, 3) := by decide +kernel
theorem dX3_sizeAt_28 : decode cX3_sizeAt 28 = .ok (.iinc 3 1, 3) := by decide +kernel
theorem dX3_sizeAt_31 : decode cX3_sizeAt 31 = .ok (.goto (-27), 3) := by decide +kernel
theorem dX3_sizeAt_34 : decode cX3_sizeAt 34 = .ok (.iload_n 2, 1) := by decide +kernel
theorem dX3_sizeAt_35 : decode cX3_sizeAt 35 = .ok (.ireturn, 1) := by decide +kernel
set_option maxRecDepth 20000 in
theorem ggX3_find_X2_portOf : GoodIn wsX3_find wsX2_portOf := goodIn_r _ [7, 8, 34, 35, 36, 37] (by decide +kernel) (by decide +kernel)
set_option maxRecDepth 20000 in
theorem gX3_find_X2_portOf : GoodIn wsX3_find (wsV RX3 22 RX2 yX2_portOf wsX2_portOf) := goodIn_app (goodIn_of _ (by decide +kernel)) ggX3_find_X2_portOf
set_option maxRecDepth 20000 in
theorem ggX3_find_X2_contents : GoodIn wsX3_find wsX2_contents := goodIn_r _ [12, 13, 34, 35, 36, 37] (by decide +kernel) (by decide +kernel)
set_option maxRecDepth 20000 in
theorem gX3_find_X2_contents : GoodIn wsX3_find (wsV RX3 26 RX2 yX2_contents wsX2_contents) := goodIn_app (goodIn_of _ (by decide +kernel)) ggX3_find_X2_contents
set_option maxRecDepth 20000 in
theorem ggX3_find_X0_isSameStation : GoodIn wsX3_find wsX0_isSameStation := goodIn_r _ [18, 19, 20, 21, 17, 22, 23, 24, 25, 26, 27, 28, 29, 30, 31, 38, 39] (by decide +kernel) (by decide +kernel)
set_option maxRecDepth 20000 in
theorem gX3_find_X0_isSameStation : GoodIn wsX3_find (wsV RX3 30 RX0 yX0_isSameStation wsX0_isSameStation) := goodIn_app (goodIn_of _ (by decide +kernel)) ggX3_find_X0_isSameStation
theorem dX3_find_0 : decode cX3_find 0 = .ok (.iconst 0, 1) := by decide +kernel
theorem dX3_find_1 : decode cX3_find 1 = .ok (.istore_n 3, 1) := by decide +kernel
theorem dX3_find_2 : decode cX3_find 2 = .ok (.iload_n 3, 1) := by decide +kernel
theorem dX3_find_3 : decode cX3_find 3 = .ok (.aload_n 0, 1) := by decide +kernel
theorem dX3_find_4 : decode cX3_find 4 = .ok (.getfield 18, 3) := by decide +kernel
theorem dX3_find_7 : decode cX3_find 7 = .ok (.if_icmp .ge 40, 3) := by decide +kernel
theorem dX3_find_10 : decode cX3_find 10 = .ok (.aload_n 0, 1) := by decide +kernel
theorem dX3_find_11 : decode cX3_find 11 = .ok (.getfield 11, 3) := by decide +kernel
theorem dX3_find_14 : decode cX3_find 14 = .ok (.iload_n 3, 1) := by decide +kernel
theorem dX3_find_15 : decode cX3_find 15 = .ok (.aaload, 1) := by decide +kernel
theorem dX3_find_16 : decode cX3_find 16 = .ok (.invokevirtual 22, 3) := by decide +kernel
theorem dX3_find_19 : decode cX3_find 19 = .ok (.iload_n 1, 1) := by decide +kernel
theorem dX3_find_20 : decode cX3_find 20 = .ok (.if_icmp .ne 21, 3) := by decide +kernel
theorem dX3_find_23 : decode cX3_find 23 = .ok (.aload_n 0, 1) := by decide +kernel
theorem dX3_find_24 : decode cX3_find 24 = .ok (.getfield 11, 3) := by decide +kernel
theorem dX3_find_27 : decode cX3_find 27 = .ok (.iload_n 3, 1) := by decide +kernel
theorem dX3_find_28 : decode cX3_find 28 = .ok (.aaload, 1) := by decide +kernel
theorem dX3_find_29 : decode cX3_find 29 = .ok (.invokevirtual 26, 3) := by decide +kernel
theorem dX3_find_32 : decode cX3_find 32 = .ok (.aload_n 2, 1) := by decide +kernel
theorem dX3_find_33 : decode cX3_find 33 = .ok (.invokevirtual 30, 3) := by decide +kernel
theorem dX3_find_36 : decode cX3_find 36 = .ok (.ifCond .eq 5, 3) := by decide +kernel
theorem dX3_find_39 : decode cX3_find 39 = .ok (.iload_n 3, 1) := by decide +kernel
theorem dX3_find_40 : decode cX3_find 40 = .ok (.ireturn, 1) := by decide +kernel
theorem dX3_find_41 : decode cX3_find 41 = .ok (.iinc 3 1, 3) := by decide +kernel
theorem dX3_find_44 : decode cX3_find 44 = .ok (.goto (-42), 3) := by decide +kernel
theorem dX3_find_47 : decode cX3_find 47 = .ok (.iconst (-1), 1) := by decide +kernel
theorem dX3_find_48 : decode cX3_find 48 = .ok (.ireturn, 1) := by decide +kernel
set_option maxRecDepth 20000 in
theorem ggX3_add_X2_begin : GoodIn wsX3_add wsX2_begin := goodIn_r _ [7, 8, 9, 12, 13, 14, 15] (by decide +kernel) (by decide +kernel)
set_option maxRecDepth 20000 in
theorem gX3_add_X2_begin : GoodIn wsX3_add (wsV RX3 36 RX2 yX2_begin wsX2_begin) := goodIn_app (goodIn_of _ (by decide +kernel)) ggX3_add_X2_begin
theorem dX3_add_0 : decode cX3_add 0 = .ok (.aload_n 0, 1) := by decide +kernel
theorem dX3_add_1 : decode cX3_add 1 = .ok (.getfield 18, 3) := by decide +kernel
theorem dX3_add_4 : decode cX3_add 4 = .ok (.bipush 12, 2) := by decide +kernel
theorem dX3_add_6 : decode cX3_add 6 = .ok (.if_icmp .lt 5, 3) := by decide +kernel
theorem dX3_add_9 : decode cX3_add 9 = .ok (.iconst (-1), 1) := by decide +kernel
theorem dX3_add_10 : decode cX3_add 10 = .ok (.ireturn, 1) := by decide +kernel
theorem dX3_add_11 : decode cX3_add 11 = .ok (.aload_n 0, 1) := by decide +kernel
theorem dX3_add_12 : decode cX3_add 12 = .ok (.getfield 18, 3) := by decide +kernel
theorem dX3_add_15 : decode cX3_add 15 = .ok (.istore_n 2, 1) := by decide +kernel
theorem dX3_add_16 : decode cX3_add 16 = .ok (.aload_n 0, 1) := by decide +kernel
theorem dX3_add_17 : decode cX3_add 17 = .ok (.getfield 11, 3) := by decide +kernel
theorem dX3_add_20 : decode cX3_add 20 = .ok (.iload_n 2, 1) := by decide +kernel
theorem dX3_add_21 : decode cX3_add 21 = .ok (.aaload, 1) := by decide +kernel
theorem dX3_add_22 : decode cX3_add 22 = .ok (.iload_n 1, 1) := by decide +kernel
theorem dX3_add_23 : decode cX3_add 23 = .ok (.invokevirtual 36, 3) := by decide +kernel
theorem dX3_add_26 : decode cX3_add 26 = .ok (.aload_n 0, 1) := by decide +kernel
theorem dX3_add_27 : decode cX3_add 27 = .ok (.dup, 1) := by decide +kernel
theorem dX3_add_28 : decode cX3_add 28 = .ok (.getfield 18, 3) := by decide +kernel
theorem dX3_add_31 : decode cX3_add 31 = .ok (.iconst 1, 1) := by decide +kernel
theorem dX3_add_32 : decode cX3_add 32 = .ok (.iadd, 1) := by decide +kernel
theorem dX3_add_33 : decode cX3_add 33 = .ok (.putfield 18, 3) := by decide +kernel
theorem dX3_add_36 : decode cX3_add 36 = .ok (.iload_n 2, 1) := by decide +kernel
theorem dX3_add_37 : decode cX3_add 37 = .ok (.ireturn, 1) := by decide +kernel
set_option maxRecDepth 20000 in
theorem ggX3_forget_X3_has : GoodIn wsX3_forget wsX3_has := goodIn_r _ [7, 2, 8, 9] (by decide +kernel) (by decide +kernel)
set_option maxRecDepth 20000 in
theorem gX3_forget_X3_has : GoodIn wsX3_forget (wsV RX3 40 RX3 yX3_has wsX3_has) := goodIn_app (goodIn_of _ (by decide +kernel)) ggX3_forget_X3_has
theorem dX3_forget_0 : decode cX3_forget 0 = .ok (.aload_n 0, 1) := by decide +kernel
theorem dX3_forget_1 : decode cX3_forget 1 = .ok (.iload_n 1, 1) := by decide +kernel
theorem dX3_forget_2 : decode cX3_forget 2 = .ok (.invokevirtual 40, 3) := by decide +kernel
theorem dX3_forget_5 : decode cX3_forget 5 = .ok (.ifCond .ne 4, 3) := by decide +kernel
theorem dX3_forget_8 : decode cX3_forget 8 = .ok (.return_, 1) := by decide +kernel
theorem dX3_forget_9 : decode cX3_forget 9 = .ok (.aload_n 0, 1) := by decide +kernel
theorem dX3_forget_10 : decode cX3_forget 10 = .ok (.getfield 11, 3) := by decide +kernel
theorem dX3_forget_13 : decode cX3_forget 13 = .ok (.iload_n 1, 1) := by decide +kernel
theorem dX3_forget_14 : decode cX3_forget 14 = .ok (.aaload, 1) := by decide +kernel
theorem dX3_forget_15 : decode cX3_forget 15 = .ok (.astore_n 2, 1) := by decide +kernel
theorem dX3_forget_16 : decode cX3_forget 16 = .ok (.aload_n 0, 1) := by decide +kernel
theorem dX3_forget_17 : decode cX3_forget 17 = .ok (.dup, 1) := by decide +kernel
theorem dX3_forget_18 : decode cX3_forget 18 = .ok (.getfield 18, 3) := by decide +kernel
theorem dX3_forget_21 : decode cX3_forget 21 = .ok (.iconst 1, 1) := by decide +kernel
theorem dX3_forget_22 : decode cX3_forget 22 = .ok (.isub, 1) := by decide +kernel
theorem dX3_forget_23 : decode cX3_forget 23 = .ok (.putfield 18, 3) := by decide +kernel
theorem dX3_forget_26 : decode cX3_forget 26 = .ok (.iload_n 1, 1) := by decide +kernel
theorem dX3_forget_27 : decode cX3_forget 27 = .ok (.istore_n 3, 1) := by decide +kernel
theorem dX3_forget_28 : decode cX3_forget 28 = .ok (.iload_n 3, 1) := by decide +kernel
theorem dX3_forget_29 : decode cX3_forget 29 = .ok (.aload_n 0, 1) := by decide +kernel
theorem dX3_forget_30 : decode cX3_forget 30 = .ok (.getfield 18, 3) := by decide +kernel
theorem dX3_forget_33 : decode cX3_forget 33 = .ok (.if_icmp .ge 23, 3) := by decide +kernel
theorem dX3_forget_36 : decode cX3_forget 36 = .ok (.aload_n 0, 1) := by decide +kernel
theorem dX3_forget_37 : decode cX3_forget 37 = .ok (.getfield 11, 3) := by decide +kernel
theorem dX3_forget_40 : decode cX3_forget 40 = .ok (.iload_n 3, 1) := by decide +kernel
theorem dX3_forget_41 : decode cX3_forget 41 = .ok (.aload_n 0, 1) := by decide +kernel
theorem dX3_forget_42 : decode cX3_forget 42 = .ok (.getfield 11, 3) := by decide +kernel
theorem dX3_forget_45 : decode cX3_forget 45 = .ok (.iload_n 3, 1) := by decide +kernel
theorem dX3_forget_46 : decode cX3_forget 46 = .ok (.iconst 1, 1) := by decide +kernel
theorem dX3_forget_47 : decode cX3_forget 47 = .ok (.iadd, 1) := by decide +kernel
theorem dX3_forget_48 : decode cX3_forget 48 = .ok (.aaload, 1) := by decide +kernel
theorem dX3_forget_49 : decode cX3_forget 49 = .ok (.aastore, 1) := by decide +kernel
theorem dX3_forget_50 : decode cX3_forget 50 = .ok (.iinc 3 1, 3) := by decide +kernel
theorem dX3_forget_53 : decode cX3_forget 53 = .ok (.goto (-25), 3) := by decide +kernel
theorem dX3_forget_56 : decode cX3_forget 56 = .ok (.aload_n 0, 1) := by decide +kernel
theorem dX3_forget_57 : decode cX3_forget 57 = .ok (.getfield 11, 3) := by decide +kernel
theorem dX3_forget_60 : decode cX3_forget 60 = .ok (.aload_n 0, 1) := by decide +kernel
theorem dX3_forget_61 : decode cX3_forget 61 = .ok (.getfield 18, 3) := by decide +kernel
theorem dX3_forget_64 : decode cX3_forget 64 = .ok (.aload_n 2, 1) := by decide +kernel
theorem dX3_forget_65 : decode cX3_forget 65 = .ok (.aastore, 1) := by decide +kernel
theorem dX3_forget_66 : decode cX3_forget 66 = .ok (.return_, 1) := by decide +kernel
set_option maxRecDepth 20000 in
theorem ggX3_forgetAllAt_X2_portOf : GoodIn wsX3_forgetAllAt wsX2_portOf := goodIn_r _ [7, 8, 20, 21, 22, 23] (by decide +kernel) (by decide +kernel)
set_option maxRecDepth 20000 in
theorem gX3_forgetAllAt_X2_portOf : GoodIn wsX3_forgetAllAt (wsV RX3 22 RX2 yX2_portOf wsX2_portOf) := goodIn_app (goodIn_of _ (by decide +kernel)) ggX3_forgetAllAt_X2_portOf
set_option maxRecDepth 20000 in
theorem ggX3_forgetAllAt_X3_forget : GoodIn wsX3_forgetAllAt wsX3_forget := goodIn_r _ [13, 2, 1, 14, 15, 16, 12, 17, 18, 19] (by decide +kernel) (by decide +kernel)
set_option maxRecDepth 20000 in
theorem gX3_forgetAllAt_X3_forget : GoodIn wsX3_forgetAllAt (wsV RX3 44 RX3 yX3_forget wsX3_forget) := goodIn_app (goodIn_of _ (by decide +kernel)) ggX3_forgetAllAt_X3_forget
theorem dX3_forgetAllAt_0 : decode cX3_forgetAllAt 0 = .ok (.aload_n 0, 1) := by decide +kernel
theorem dX3_forgetAllAt_1 : decode cX3_forgetAllAt 1 = .ok (.getfield 18, 3) := by decide +kernel
theorem dX3_forgetAllAt_4 : decode cX3_forgetAllAt 4 = .ok (.iconst 1, 1) := by decide +kernel
theorem dX3_forgetAllAt_5 : decode cX3_forgetAllAt 5 = .ok (.isub, 1) := by decide +kernel
theorem dX3_forgetAllAt_6 : decode cX3_forgetAllAt 6 = .ok (.istore_n 2, 1) := by decide +kernel
theorem dX3_forgetAllAt_7 : decode cX3_forgetAllAt 7 = .ok (.iload_n 2, 1) := by decide +kernel
theorem dX3_forgetAllAt_8 : decode cX3_forgetAllAt 8 = .ok (.ifCond .lt 27, 3) := by decide +kernel
theorem dX3_forgetAllAt_11 : decode cX3_forgetAllAt 11 = .ok (.aload_n 0, 1) := by decide +kernel
theorem dX3_forgetAllAt_12 : decode cX3_forgetAllAt 12 = .ok (.getfield 11, 3) := by decide +kernel
theorem dX3_forgetAllAt_15 : decode cX3_forgetAllAt 15 = .ok (.iload_n 2, 1) := by decide +kernel
theorem dX3_forgetAllAt_16 : decode cX3_forgetAllAt 16 = .ok (.aaload, 1) := by decide +kernel
theorem dX3_forgetAllAt_17 : decode cX3_forgetAllAt 17 = .ok (.invokevirtual 22, 3) := by decide +kernel
theorem dX3_forgetAllAt_20 : decode cX3_forgetAllAt 20 = .ok (.iload_n 1, 1) := by decide +kernel
theorem dX3_forgetAllAt_21 : decode cX3_forgetAllAt 21 = .ok (.if_icmp .ne 8, 3) := by decide +kernel
theorem dX3_forgetAllAt_24 : decode cX3_forgetAllAt 24 = .ok (.aload_n 0, 1) := by decide +kernel
theorem dX3_forgetAllAt_25 : decode cX3_forgetAllAt 25 = .ok (.iload_n 2, 1) := by decide +kernel
theorem dX3_forgetAllAt_26 : decode cX3_forgetAllAt 26 = .ok (.invokevirtual 44, 3) := by decide +kernel
theorem dX3_forgetAllAt_29 : decode cX3_forgetAllAt 29 = .ok (.iinc 2 (-1), 3) := by decide +kernel
theorem dX3_forgetAllAt_32 : decode cX3_forgetAllAt 32 = .ok (.goto (-25), 3) := by decide +kernel
theorem dX3_forgetAllAt_35 : decode cX3_forgetAllAt 35 = .ok (.return_, 1) := by decide +kernel
set_option maxRecDepth 20000 in
theorem ggX3_passTick_X2_passTick : GoodIn wsX3_passTick wsX2_passTick := goodIn_r _ [7, 8, 20, 21, 22, 23] (by decide +kernel) (by decide +kernel)
set_option maxRecDepth 20000 in
theorem gX3_passTick_X2_passTick : GoodIn wsX3_passTick (wsV RX3 47 RX2 yX2_passTick wsX2_passTick) := goodIn_app (goodIn_of _ (by decide +kernel)) ggX3_passTick_X2_passTick
set_option maxRecDepth 20000 in
theorem ggX3_passTick_X3_forget : GoodIn wsX3_passTick wsX3_forget := goodIn_r _ [13, 2, 1, 14, 15, 16, 12, 17, 18, 19] (by decide +kernel) (by decide +kernel)
set_option maxRecDepth 20000 in
theorem gX3_passTick_X3_forget : GoodIn wsX3_passTick (wsV RX3 44 RX3 yX3_forget wsX3_forget) := goodIn_app (goodIn_of _ (by decide +kernel)) ggX3_passTick_X3_forget
theorem dX3_passTick_0 : decode cX3_passTick 0 = .ok (.aload_n 0, 1) := by decide +kernel
theorem dX3_passTick_1 : decode cX3_passTick 1 = .ok (.getfield 18, 3) := by decide +kernel
theorem dX3_passTick_4 : decode cX3_passTick 4 = .ok (.iconst 1, 1) := by decide +kernel
theorem dX3_passTick_5 : decode cX3_passTick 5 = .ok (.isub, 1) := by decide +kernel
theorem dX3_passTick_6 : decode cX3_passTick 6 = .ok (.istore_n 1, 1) := by decide +kernel
theorem dX3_passTick_7 : decode cX3_passTick 7 = .ok (.iload_n 1, 1) := by decide +kernel
theorem dX3_passTick_8 : decode cX3_passTick 8 = .ok (.ifCond .lt 26, 3) := by decide +kernel
theorem dX3_passTick_11 : decode cX3_passTick 11 = .ok (.aload_n 0, 1) := by decide +kernel
theorem dX3_passTick_12 : decode cX3_passTick 12 = .ok (.getfield 11, 3) := by decide +kernel
theorem dX3_passTick_15 : decode cX3_passTick 15 = .ok (.iload_n 1, 1) := by decide +kernel
theorem dX3_passTick_16 : decode cX3_passTick 16 = .ok (.aaload, 1) := by decide +kernel
theorem dX3_passTick_17 : decode cX3_passTick 17 = .ok (.invokevirtual 47, 3) := by decide +kernel
theorem dX3_passTick_20 : decode cX3_passTick 20 = .ok (.ifCond .eq 8, 3) := by decide +kernel
theorem dX3_passTick_23 : decode cX3_passTick 23 = .ok (.aload_n 0, 1) := by decide +kernel
theorem dX3_passTick_24 : decode cX3_passTick 24 = .ok (.iload_n 1, 1) := by decide +kernel
theorem dX3_passTick_25 : decode cX3_passTick 25 = .ok (.invokevirtual 44, 3) := by decide +kernel
theorem dX3_passTick_28 : decode cX3_passTick 28 = .ok (.iinc 1 (-1), 3) := by decide +kernel
theorem dX3_passTick_31 : decode cX3_passTick 31 = .ok (.goto (-24), 3) := by decide +kernel
theorem dX3_passTick_34 : decode cX3_passTick 34 = .ok (.return_, 1) := by decide +kernel
theorem dX4_init_0 : decode cX4_init 0 = .ok (.aload_n 0, 1) := by decide +kernel
theorem dX4_init_1 : decode cX4_init 1 = .ok (.invokespecial 3, 3) := by decide +kernel
theorem dX4_init_4 : decode cX4_init 4 = .ok (.return_, 1) := by decide +kernel
theorem dX4_isUp_0 : decode cX4_isUp 0 = .ok (.aload_n 0, 1) := by decide +kernel
theorem dX4_isUp_1 : decode cX4_isUp 1 = .ok (.getfield 9, 3) := by decide +kernel
theorem dX4_isUp_4 : decode cX4_isUp 4 = .ok (.ireturn, 1) := by decide +kernel
theorem dX4_goUp_0 : decode cX4_goUp 0 = .ok (.aload_n 0, 1) := by decide +kernel
theorem dX4_goUp_1 : decode cX4_goUp 1 = .ok (.iconst 1, 1) := by decide +kernel
theorem dX4_goUp_2 : decode cX4_goUp 2 = .ok (.putfield 9, 3) := by decide +kernel
theorem dX4_goUp_5 : decode cX4_goUp 5 = .ok (.aload_n 0, 1) := by decide +kernel
theorem dX4_goUp_6 : decode cX4_goUp 6 = .ok (.iload_n 1, 1) := by decide +kernel
theorem dX4_goUp_7 : decode cX4_goUp 7 = .ok (.putfield 15, 3) := by decide +kernel
theorem dX4_goUp_10 : decode cX4_goUp 10 = .ok (.aload_n 0, 1) := by decide +kernel
theorem dX4_goUp_11 : decode cX4_goUp 11 = .ok (.iconst 1, 1) := by decide +kernel
theorem dX4_goUp_12 : decode cX4_goUp 12 = .ok (.putfield 19, 3) := by decide +kernel
theorem dX4_goUp_15 : decode cX4_goUp 15 = .ok (.return_, 1) := by decide +kernel
theorem dX4_goDown_0 : decode cX4_goDown 0 = .ok (.aload_n 0, 1) := by decide +kernel
theorem dX4_goDown_1 : decode cX4_goDown 1 = .ok (.iconst 0, 1) := by decide +kernel
theorem dX4_goDown_2 : decode cX4_goDown 2 = .ok (.putfield 9, 3) := by decide +kernel
theorem dX4_goDown_5 : decode cX4_goDown 5 = .ok (.aload_n 0, 1) := by decide +kernel
theorem dX4_goDown_6 : decode cX4_goDown 6 = .ok (.iconst 0, 1) := by decide +kernel
theorem dX4_goDown_7 : decode cX4_goDown 7 = .ok (.putfield 19, 3) := by decide +kernel
theorem dX4_goDown_10 : decode cX4_goDown 10 = .ok (.aload_n 0, 1) := by decide +kernel
theorem dX4_goDown_11 : decode cX4_goDown 11 = .ok (.dup, 1) := by decide +kernel
theorem dX4_goDown_12 : decode cX4_goDown 12 = .ok (.getfield 22, 3) := by decide +kernel
theorem dX4_goDown_15 : decode cX4_goDown 15 = .ok (.iconst 1, 1) := by decide +kernel
theorem dX4_goDown_16 : decode cX4_goDown 16 = .ok (.iadd, 1) := by decide +kernel
theorem dX4_goDown_17 : decode cX4_goDown 17 = .ok (.putfield 22, 3) := by decide +kernel
theorem dX4_goDown_20 : decode cX4_goDown 20 = .ok (.return_, 1) := by decide +kernel
theorem dX4_hurry_0 : decode cX4_hurry 0 = .ok (.aload_n 0, 1) := by decide +kernel
theorem dX4_hurry_1 : decode cX4_hurry 1 = .ok (.getfield 9, 3) := by decide +kernel
theorem dX4_hurry_4 : decode cX4_hurry 4 = .ok (.ifCond .eq 8, 3) := by decide +kernel
theorem dX4_hurry_7 : decode cX4_hurry 7 = .ok (.aload_n 0, 1) := by decide +kernel
theorem dX4_hurry_8 : decode cX4_hurry 8 = .ok (.iconst 1, 1) := by decide +kernel
theorem dX4_hurry_9 : decode cX4_hurry 9 = .ok (.putfield 19, 3) := by decide +kernel
theorem dX4_hurry_12 : decode cX4_hurry 12 = .ok (.return_, 1) := by decide +kernel
theorem dX4_greet_0 : decode cX4_greet 0 = .ok (.aload_n 0, 1) := by decide +kernel
theorem dX4_greet_1 : decode cX4_greet 1 = .ok (.aload_n 0, 1) := by decide +kernel
theorem dX4_greet_2 : decode cX4_greet 2 = .ok (.getfield 15, 3) := by decide +kernel
theorem dX4_greet_5 : decode cX4_greet 5 = .ok (.iload_n 1, 1) := by decide +kernel
theorem dX4_greet_6 : decode cX4_greet 6 = .ok (.invokestatic 25, 3) := by decide +kernel
theorem dX4_greet_9 : decode cX4_greet 9 = .ok (.putfield 15, 3) := by decide +kernel
theorem dX4_greet_12 : decode cX4_greet 12 = .ok (.aload_n 0, 1) := by decide +kernel
theorem dX4_greet_13 : decode cX4_greet 13 = .ok (.iconst 1, 1) := by decide +kernel
theorem dX4_greet_14 : decode cX4_greet 14 = .ok (.putfield 19, 3) := by decide +kernel
theorem dX4_greet_17 : decode cX4_greet 17 = .ok (.return_, 1) := by decide +kernel
theorem dX4_noteHeard_0 : decode cX4_noteHeard 0 = .ok (.iload_n 1, 1) := by decide +kernel
theorem dX4_noteHeard_1 : decode cX4_noteHeard 1 = .ok (.ifCond .eq 16, 3) := by decide +kernel
theorem dX4_noteHeard_4 : decode cX4_noteHeard 4 = .ok (.aload_n 0, 1) := by decide +kernel
theorem dX4_noteHeard_5 : decode cX4_noteHeard 5 = .ok (.dup, 1) := by decide +kernel
theorem dX4_noteHeard_6 : decode cX4_noteHeard 6 = .ok (.getfield 31, 3) := by decide +kernel
theorem dX4_noteHeard_9 : decode cX4_noteHeard 9 = .ok (.iconst 1, 1) := by decide +kernel
theorem dX4_noteHeard_10 : decode cX4_noteHeard 10 = .ok (.iadd, 1) := by decide +kernel
theorem dX4_noteHeard_11 : decode cX4_noteHeard 11 = .ok (.putfield 31, 3) := by decide +kernel
theorem dX4_noteHeard_14 : decode cX4_noteHeard 14 = .ok (.goto 13, 3) := by decide +kernel
theorem dX4_noteHeard_17 : decode cX4_noteHeard 17 = .ok (.aload_n 0, 1) := by decide +kernel
theorem dX4_noteHeard_18 : decode cX4_noteHeard 18 = .ok (.dup, 1) := by decide +kernel
theorem dX4_noteHeard_19 : decode cX4_noteHeard 19 = .ok (.getfield 34, 3) := by decide +kernel
theorem dX4_noteHeard_22 : decode cX4_noteHeard 22 = .ok (.iconst 1, 1) := by decide +kernel
theorem dX4_noteHeard_23 : decode cX4_noteHeard 23 = .ok (.iadd, 1) := by decide +kernel
theorem dX4_noteHeard_24 : decode cX4_noteHeard 24 = .ok (.putfield 34, 3) := by decide +kernel
theorem dX4_noteHeard_27 : decode cX4_noteHeard 27 = .ok (.return_, 1) := by decide +kernel
theorem dX4_passTick_0 : decode cX4_passTick 0 = .ok (.aload_n 0, 1) := by decide +kernel
theorem dX4_passTick_1 : decode cX4_passTick 1 = .ok (.getfield 9, 3) := by decide +kernel
theorem dX4_passTick_4 : decode cX4_passTick 4 = .ok (.ifCond .ne 5, 3) := by decide +kernel
theorem dX4_passTick_7 : decode cX4_passTick 7 = .ok (.iconst 0, 1) := by decide +kernel
theorem dX4_passTick_8 : decode cX4_passTick 8 = .ok (.ireturn, 1) := by decide +kernel
theorem dX4_passTick_9 : decode cX4_passTick 9 = .ok (.aload_n 0, 1) := by decide +kernel
theorem dX4_passTick_10 : decode cX4_passTick 10 = .ok (.dup, 1) := by decide +kernel
theorem dX4_passTick_11 : decode cX4_passTick 11 = .ok (.getfield 19, 3) := by decide +kernel
theorem dX4_passTick_14 : decode cX4_passTick 14 = .ok (.iconst 1, 1) := by decide +kernel
theorem dX4_passTick_15 : decode cX4_passTick 15 = .ok (.isub, 1) := by decide +kernel
theorem dX4_passTick_16 : decode cX4_passTick 16 = .ok (.putfield 19, 3) := by decide +kernel
theorem dX4_passTick_19 : decode cX4_passTick 19 = .ok (.aload_n 0, 1) := by decide +kernel
theorem dX4_passTick_20 : decode cX4_passTick 20 = .ok (.getfield 19, 3) := by decide +kernel
theorem dX4_passTick_23 : decode cX4_passTick 23 = .ok (.ifCond .le 5, 3) := by decide +kernel
theorem dX4_passTick_26 : decode cX4_passTick 26 = .ok (.iconst 0, 1) := by decide +kernel
theorem dX4_passTick_27 : decode cX4_passTick 27 = .ok (.ireturn, 1) := by decide +kernel
theorem dX4_passTick_28 : decode cX4_passTick 28 = .ok (.aload_n 0, 1) := by decide +kernel
theorem dX4_passTick_29 : decode cX4_passTick 29 = .ok (.dup, 1) := by decide +kernel
theorem dX4_passTick_30 : decode cX4_passTick 30 = .ok (.getfield 22, 3) := by decide +kernel
theorem dX4_passTick_33 : decode cX4_passTick 33 = .ok (.iconst 1, 1) := by decide +kernel
theorem dX4_passTick_34 : decode cX4_passTick 34 = .ok (.iadd, 1) := by decide +kernel
theorem dX4_passTick_35 : decode cX4_passTick 35 = .ok (.putfield 22, 3) := by decide +kernel
theorem dX4_passTick_38 : decode cX4_passTick 38 = .ok (.aload_n 0, 1) := by decide +kernel
theorem dX4_passTick_39 : decode cX4_passTick 39 = .ok (.getfield 15, 3) := by decide +kernel
theorem dX4_passTick_42 : decode cX4_passTick 42 = .ok (.ifCond .le 13, 3) := by decide +kernel
theorem dX4_passTick_45 : decode cX4_passTick 45 = .ok (.aload_n 0, 1) := by decide +kernel
theorem dX4_passTick_46 : decode cX4_passTick 46 = .ok (.dup, 1) := by decide +kernel
theorem dX4_passTick_47 : decode cX4_passTick 47 = .ok (.getfield 15, 3) := by decide +kernel
theorem dX4_passTick_50 : decode cX4_passTick 50 = .ok (.iconst 1, 1) := by decide +kernel
theorem dX4_passTick_51 : decode cX4_passTick 51 = .ok (.isub, 1) := by decide +kernel
theorem dX4_passTick_52 : decode cX4_passTick 52 = .ok (.putfield 15, 3) := by decide +kernel
theorem dX4_passTick_55 : decode cX4_passTick 55 = .ok (.aload_n 0, 1) := by decide +kernel
theorem dX4_passTick_56 : decode cX4_passTick 56 = .ok (.aload_n 0, 1) := by decide +kernel
theorem dX4_passTick_57 : decode cX4_passTick 57 = .ok (.getfield 15, 3) := by decide +kernel
theorem dX4_passTick_60 : decode cX4_passTick 60 = .ok (.ifCond .le 7, 3) := by decide +kernel
theorem dX4_passTick_63 : decode cX4_passTick 63 = .ok (.iconst 1, 1) := by decide +kernel
theorem dX4_passTick_64 : decode cX4_passTick 64 = .ok (.goto 4, 3) := by decide +kernel
theorem dX4_passTick_67 : decode cX4_passTick 67 = .ok (.iload_n 1, 1) := by decide +kernel
theorem dX4_passTick_68 : decode cX4_passTick 68 = .ok (.putfield 19, 3) := by decide +kernel
theorem dX4_passTick_71 : decode cX4_passTick 71 = .ok (.iconst 1, 1) := by decide +kernel
theorem dX4_passTick_72 : decode cX4_passTick 72 = .ok (.ireturn, 1) := by decide +kernel
theorem dX4_tellAbout_0 : decode cX4_tellAbout 0 = .ok (.iload_n 1, 1) := by decide +kernel
theorem dX4_tellAbout_1 : decode cX4_tellAbout 1 = .ok (.tableswitch 81 0 6 #[43, 56, 61, 66, 81, 71, 76], 43) := by decide +kernel
theorem dX4_tellAbout_44 : decode cX4_tellAbout 44 = .ok (.aload_n 0, 1) := by decide +kernel
theorem dX4_tellAbout_45 : decode cX4_tellAbout 45 = .ok (.getfield 9, 3) := by decide +kernel
theorem dX4_tellAbout_48 : decode cX4_tellAbout 48 = .ok (.ifCond .eq 7, 3) := by decide +kernel
theorem dX4_tellAbout_51 : decode cX4_tellAbout 51 = .ok (.iconst 1, 1) := by decide +kernel
theorem dX4_tellAbout_52 : decode cX4_tellAbout 52 = .ok (.goto 4, 3) := by decide +kernel
theorem dX4_tellAbout_55 : decode cX4_tellAbout 55 = .ok (.iconst 0, 1) := by decide +kernel
theorem dX4_tellAbout_56 : decode cX4_tellAbout 56 = .ok (.ireturn, 1) := by decide +kernel
theorem dX4_tellAbout_57 : decode cX4_tellAbout 57 = .ok (.aload_n 0, 1) := by decide +kernel
theorem dX4_tellAbout_58 : decode cX4_tellAbout 58 = .ok (.getfield 22, 3) := by decide +kernel
theorem dX4_tellAbout_61 : decode cX4_tellAbout 61 = .ok (.ireturn, 1) := by decide +kernel
theorem dX4_tellAbout_62 : decode cX4_tellAbout 62 = .ok (.aload_n 0, 1) := by decide +kernel
theorem dX4_tellAbout_63 : decode cX4_tellAbout 63 = .ok (.getfield 31, 3) := by decide +kernel
theorem dX4_tellAbout_66 : decode cX4_tellAbout 66 = .ok (.ireturn, 1) := by decide +kernel
theorem dX4_tellAbout_67 : decode cX4_tellAbout 67 = .ok (.aload_n 0, 1) := by decide +kernel
theorem dX4_tellAbout_68 : decode cX4_tellAbout 68 = .ok (.getfield 34, 3) := by decide +kernel
theorem dX4_tellAbout_71 : decode cX4_tellAbout 71 = .ok (.ireturn, 1) := by decide +kernel
theorem dX4_tellAbout_72 : decode cX4_tellAbout 72 = .ok (.aload_n 0, 1) := by decide +kernel
theorem dX4_tellAbout_73 : decode cX4_tellAbout 73 = .ok (.getfield 19, 3) := by decide +kernel
theorem dX4_tellAbout_76 : decode cX4_tellAbout 76 = .ok (.ireturn, 1) := by decide +kernel
theorem dX4_tellAbout_77 : decode cX4_tellAbout 77 = .ok (.aload_n 0, 1) := by decide +kernel
theorem dX4_tellAbout_78 : decode cX4_tellAbout 78 = .ok (.getfield 15, 3) := by decide +kernel
theorem dX4_tellAbout_81 : decode cX4_tellAbout 81 = .ok (.ireturn, 1) := by decide +kernel
theorem dX4_tellAbout_82 : decode cX4_tellAbout 82 = .ok (.iconst (-1), 1) := by decide +kernel
theorem dX4_tellAbout_83 : decode cX4_tellAbout 83 = .ok (.ireturn, 1) := by decide +kernel
end
section
theorem dX5_init_0 : decode cX5_init 0 = .ok (.aload_n 0, 1) := by decide +kernel
theorem dX5_init_1 : decode cX5_init 1 = .ok (.invokespecial 3, 3) := by decide +kernel
theorem dX5_init_4 : decode cX5_init 4 = .ok (.aload_n 0, 1) := by decide +kernel
theorem dX5_init_5 : decode cX5_init 5 = .ok (.sipush 439, 3) := by decide +kernel
theorem dX5_init_8 : decode cX5_init 8 = .ok (.newarray .byte, 2) := by decide +kernel
theorem dX5_init_10 : decode cX5_init 10 = .ok (.putfield 9, 3) := by decide +kernel
theorem dX5_init_13 : decode cX5_init 13 = .ok (.aload_n 0, 1) := by decide +kernel
theorem dX5_init_14 : decode cX5_init 14 = .ok (.iconst (-1), 1) := by decide +kernel
theorem dX5_init_15 : decode cX5_init 15 = .ok (.putfield 15, 3) := by decide +kernel
theorem dX5_init_18 : decode cX5_init 18 = .ok (.return_, 1) := by decide +kernel
theorem dX5_length_0 : decode cX5_length 0 = .ok (.aload_n 0, 1) := by decide +kernel
theorem dX5_length_1 : decode cX5_length 1 = .ok (.getfield 19, 3) := by decide +kernel
theorem dX5_length_4 : decode cX5_length 4 = .ok (.ireturn, 1) := by decide +kernel
theorem dX5_portOf_0 : decode cX5_portOf 0 = .ok (.aload_n 0, 1) := by decide +kernel
theorem dX5_portOf_1 : decode cX5_portOf 1 = .ok (.getfield 15, 3) := by decide +kernel
theorem dX5_portOf_4 : decode cX5_portOf 4 = .ok (.ireturn, 1) := by decide +kernel
theorem dX5_byteAt_0 : decode cX5_byteAt 0 = .ok (.iload_n 1, 1) := by decide +kernel
theorem dX5_byteAt_1 : decode cX5_byteAt 1 = .ok (.ifCond .lt 24, 3) := by decide +kernel
theorem dX5_byteAt_4 : decode cX5_byteAt 4 = .ok (.iload_n 1, 1) := by decide +kernel
theorem dX5_byteAt_5 : decode cX5_byteAt 5 = .ok (.aload_n 0, 1) := by decide +kernel
theorem dX5_byteAt_6 : decode cX5_byteAt 6 = .ok (.getfield 19, 3) := by decide +kernel
theorem dX5_byteAt_9 : decode cX5_byteAt 9 = .ok (.if_icmp .ge 16, 3) := by decide +kernel
theorem dX5_byteAt_12 : decode cX5_byteAt 12 = .ok (.aload_n 0, 1) := by decide +kernel
theorem dX5_byteAt_13 : decode cX5_byteAt 13 = .ok (.getfield 9, 3) := by decide +kernel
theorem dX5_byteAt_16 : decode cX5_byteAt 16 = .ok (.iload_n 1, 1) := by decide +kernel
theorem dX5_byteAt_17 : decode cX5_byteAt 17 = .ok (.baload, 1) := by decide +kernel
theorem dX5_byteAt_18 : decode cX5_byteAt 18 = .ok (.sipush 255, 3) := by decide +kernel
theorem dX5_byteAt_21 : decode cX5_byteAt 21 = .ok (.iand, 1) := by decide +kernel
theorem dX5_byteAt_22 : decode cX5_byteAt 22 = .ok (.goto 4, 3) := by decide +kernel
theorem dX5_byteAt_25 : decode cX5_byteAt 25 = .ok (.iconst (-1), 1) := by decide +kernel
theorem dX5_byteAt_26 : decode cX5_byteAt 26 = .ok (.ireturn, 1) := by decide +kernel
set_option maxRecDepth 20000 in
theorem ggX5_write_X0_sizeOf : GoodIn wsX5_write wsX0_sizeOf := goodIn_r _ [7, 8, 39, 40] (by decide +kernel) (by decide +kernel)
set_option maxRecDepth 20000 in
theorem gX5_write_X0_sizeOf : GoodIn wsX5_write (wsV RX5 22 RX0 yX0_sizeOf wsX0_sizeOf) := goodIn_app (goodIn_of _ (by decide +kernel)) ggX5_write_X0_sizeOf
set_option maxRecDepth 20000 in
theorem ggX5_write_X5_putHead : GoodIn wsX5_write wsX5_putHead := goodIn_r _ [13, 14, 15, 16, 12, 17, 2, 18, 36, 37, 38] (by decide +kernel) (by decide +kernel)
set_option maxRecDepth 20000 in
theorem gX5_write_X5_putHead : GoodIn wsX5_write (wsV RX5 28 RX5 yX5_putHead wsX5_putHead) := goodIn_app (goodIn_of _ (by decide +kernel)) ggX5_write_X5_putHead
set_option maxRecDepth 20000 in
theorem ggX5_write_X5_putContent : GoodIn wsX5_write wsX5_putContent := goodIn_r _ [22, 3, 4, 5, 6, 7, 8, 23, 24, 25, 26, 27, 28, 29, 30, 31, 14, 15, 16, 12, 17, 2, 18, 39, 40, 36, 37, 38] (by decide +kernel) (by decide +kernel)
set_option maxRecDepth 20000 in
theorem gX5_write_X5_putContent : GoodIn wsX5_write (wsV RX5 32 RX5 yX5_putContent wsX5_putContent) := goodIn_app (goodIn_of _ (by decide +kernel)) ggX5_write_X5_putContent
set_option maxRecDepth 20000 in
theorem ggX5_write_X5_putByte : GoodIn wsX5_write wsX5_putByte := goodIn_r _ [17, 2, 18, 36, 37, 38] (by decide +kernel) (by decide +kernel)
set_option maxRecDepth 20000 in
theorem gX5_write_X5_putByte : GoodIn wsX5_write (wsV RX5 36 RX5 yX5_putByte wsX5_putByte) := goodIn_app (goodIn_of _ (by decide +kernel)) ggX5_write_X5_putByte
set_option maxRecDepth 20000 in
theorem ggX5_write_X0_has : GoodIn wsX5_write wsX0_has := goodIn_r _ [35, 28, 4, 5, 6, 7, 8, 39, 40] (by decide +kernel) (by decide +kernel)
set_option maxRecDepth 20000 in
theorem gX5_write_X0_has : GoodIn wsX5_write (wsV RX5 40 RX0 yX0_has wsX0_has) := goodIn_app (goodIn_of _ (by decide +kernel)) ggX5_write_X0_has
theorem dX5_write_0 : decode cX5_write 0 = .ok (.aload_n 0, 1) := by decide +kernel
theorem dX5_write_1 : decode cX5_write 1 = .ok (.iload_n 1, 1) := by decide +kernel
theorem dX5_write_2 : decode cX5_write 2 = .ok (.putfield 15, 3) := by decide +kernel
theorem dX5_write_5 : decode cX5_write 5 = .ok (.aload_n 0, 1) := by decide +kernel
theorem dX5_write_6 : decode cX5_write 6 = .ok (.iconst 0, 1) := by decide +kernel
theorem dX5_write_7 : decode cX5_write 7 = .ok (.putfield 19, 3) := by decide +kernel
theorem dX5_write_10 : decode cX5_write 10 = .ok (.aload_n 0, 1) := by decide +kernel
theorem dX5_write_11 : decode cX5_write 11 = .ok (.iconst 1, 1) := by decide +kernel
theorem dX5_write_12 : decode cX5_write 12 = .ok (.aload_n 2, 1) := by decide +kernel
theorem dX5_write_13 : decode cX5_write 13 = .ok (.iconst 1, 1) := by decide +kernel
theorem dX5_write_14 : decode cX5_write 14 = .ok (.invokevirtual 22, 3) := by decide +kernel
theorem dX5_write_17 : decode cX5_write 17 = .ok (.invokevirtual 28, 3) := by decide +kernel
theorem dX5_write_20 : decode cX5_write 20 = .ok (.aload_n 0, 1) := by decide +kernel
theorem dX5_write_21 : decode cX5_write 21 = .ok (.iconst 1, 1) := by decide +kernel
theorem dX5_write_22 : decode cX5_write 22 = .ok (.aload_n 2, 1) := by decide +kernel
theorem dX5_write_23 : decode cX5_write 23 = .ok (.invokevirtual 32, 3) := by decide +kernel
theorem dX5_write_26 : decode cX5_write 26 = .ok (.aload_n 0, 1) := by decide +kernel
theorem dX5_write_27 : decode cX5_write 27 = .ok (.iconst 2, 1) := by decide +kernel
theorem dX5_write_28 : decode cX5_write 28 = .ok (.aload_n 2, 1) := by decide +kernel
theorem dX5_write_29 : decode cX5_write 29 = .ok (.iconst 2, 1) := by decide +kernel
theorem dX5_write_30 : decode cX5_write 30 = .ok (.invokevirtual 22, 3) := by decide +kernel
theorem dX5_write_33 : decode cX5_write 33 = .ok (.iconst 1, 1) := by decide +kernel
theorem dX5_write_34 : decode cX5_write 34 = .ok (.iadd, 1) := by decide +kernel
theorem dX5_write_35 : decode cX5_write 35 = .ok (.invokevirtual 28, 3) := by decide +kernel
theorem dX5_write_38 : decode cX5_write 38 = .ok (.aload_n 0, 1) := by decide +kernel
theorem dX5_write_39 : decode cX5_write 39 = .ok (.iconst 2, 1) := by decide +kernel
theorem dX5_write_40 : decode cX5_write 40 = .ok (.aload_n 2, 1) := by decide +kernel
theorem dX5_write_41 : decode cX5_write 41 = .ok (.invokevirtual 32, 3) := by decide +kernel
theorem dX5_write_44 : decode cX5_write 44 = .ok (.aload_n 0, 1) := by decide +kernel
theorem dX5_write_45 : decode cX5_write 45 = .ok (.iload_n 1, 1) := by decide +kernel
theorem dX5_write_46 : decode cX5_write 46 = .ok (.invokevirtual 36, 3) := by decide +kernel
theorem dX5_write_49 : decode cX5_write 49 = .ok (.aload_n 0, 1) := by decide +kernel
theorem dX5_write_50 : decode cX5_write 50 = .ok (.iconst 3, 1) := by decide +kernel
theorem dX5_write_51 : decode cX5_write 51 = .ok (.iconst 2, 1) := by decide +kernel
theorem dX5_write_52 : decode cX5_write 52 = .ok (.invokevirtual 28, 3) := by decide +kernel
theorem dX5_write_55 : decode cX5_write 55 = .ok (.aload_n 0, 1) := by decide +kernel
theorem dX5_write_56 : decode cX5_write 56 = .ok (.iload_n 3, 1) := by decide +kernel
theorem dX5_write_57 : decode cX5_write 57 = .ok (.bipush 8, 2) := by decide +kernel
theorem dX5_write_59 : decode cX5_write 59 = .ok (.ishr, 1) := by decide +kernel
theorem dX5_write_60 : decode cX5_write 60 = .ok (.invokevirtual 36, 3) := by decide +kernel
theorem dX5_write_63 : decode cX5_write 63 = .ok (.aload_n 0, 1) := by decide +kernel
theorem dX5_write_64 : decode cX5_write 64 = .ok (.iload_n 3, 1) := by decide +kernel
theorem dX5_write_65 : decode cX5_write 65 = .ok (.invokevirtual 36, 3) := by decide +kernel
theorem dX5_write_68 : decode cX5_write 68 = .ok (.iconst 4, 1) := by decide +kernel
theorem dX5_write_69 : decode cX5_write 69 = .ok (.istore 4, 2) := by decide +kernel
theorem dX5_write_71 : decode cX5_write 71 = .ok (.iload 4, 2) := by decide +kernel
theorem dX5_write_73 : decode cX5_write 73 = .ok (.bipush 8, 2) := by decide +kernel
theorem dX5_write_75 : decode cX5_write 75 = .ok (.if_icmp .gt 37, 3) := by decide +kernel
theorem dX5_write_78 : decode cX5_write 78 = .ok (.aload_n 2, 1) := by decide +kernel
theorem dX5_write_79 : decode cX5_write 79 = .ok (.iload 4, 2) := by decide +kernel
theorem dX5_write_81 : decode cX5_write 81 = .ok (.invokevirtual 40, 3) := by decide +kernel
theorem dX5_write_84 : decode cX5_write 84 = .ok (.ifCond .eq 22, 3) := by decide +kernel
theorem dX5_write_87 : decode cX5_write 87 = .ok (.aload_n 0, 1) := by decide +kernel
theorem dX5_write_88 : decode cX5_write 88 = .ok (.iload 4, 2) := by decide +kernel
theorem dX5_write_90 : decode cX5_write 90 = .ok (.aload_n 2, 1) := by decide +kernel
theorem dX5_write_91 : decode cX5_write 91 = .ok (.iload 4, 2) := by decide +kernel
theorem dX5_write_93 : decode cX5_write 93 = .ok (.invokevirtual 22, 3) := by decide +kernel
theorem dX5_write_96 : decode cX5_write 96 = .ok (.invokevirtual 28, 3) := by decide +kernel
theorem dX5_write_99 : decode cX5_write 99 = .ok (.aload_n 0, 1) := by decide +kernel
theorem dX5_write_100 : decode cX5_write 100 = .ok (.iload 4, 2) := by decide +kernel
theorem dX5_write_102 : decode cX5_write 102 = .ok (.aload_n 2, 1) := by decide +kernel
theorem dX5_write_103 : decode cX5_write 103 = .ok (.invokevirtual 32, 3) := by decide +kernel
theorem dX5_write_106 : decode cX5_write 106 = .ok (.iinc 4 1, 3) := by decide +kernel
theorem dX5_write_109 : decode cX5_write 109 = .ok (.goto (-38), 3) := by decide +kernel
theorem dX5_write_112 : decode cX5_write 112 = .ok (.aload_n 0, 1) := by decide +kernel
theorem dX5_write_113 : decode cX5_write 113 = .ok (.iconst 0, 1) := by decide +kernel
theorem dX5_write_114 : decode cX5_write 114 = .ok (.iconst 0, 1) := by decide +kernel
theorem dX5_write_115 : decode cX5_write 115 = .ok (.invokevirtual 28, 3) := by decide +kernel
theorem dX5_write_118 : decode cX5_write 118 = .ok (.return_, 1) := by decide +kernel
set_option maxRecDepth 20000 in
theorem ggX5_putHead_X5_putByte : GoodIn wsX5_putHead wsX5_putByte := goodIn_r _ [5, 6, 7, 8, 9, 10] (by decide +kernel) (by decide +kernel)
set_option maxRecDepth 20000 in
theorem gX5_putHead_X5_putByte : GoodIn wsX5_putHead (wsV RX5 36 RX5 yX5_putByte wsX5_putByte) := goodIn_app (goodIn_of _ (by decide +kernel)) ggX5_putHead_X5_putByte
theorem dX5_putHead_0 : decode cX5_putHead 0 = .ok (.iload_n 1, 1) := by decide +kernel
theorem dX5_putHead_1 : decode cX5_putHead 1 = .ok (.bipush 9, 2) := by decide +kernel
theorem dX5_putHead_3 : decode cX5_putHead 3 = .ok (.ishl, 1) := by decide +kernel
theorem dX5_putHead_4 : decode cX5_putHead 4 = .ok (.iload_n 2, 1) := by decide +kernel
theorem dX5_putHead_5 : decode cX5_putHead 5 = .ok (.ior, 1) := by decide +kernel
theorem dX5_putHead_6 : decode cX5_putHead 6 = .ok (.istore_n 3, 1) := by decide +kernel
theorem dX5_putHead_7 : decode cX5_putHead 7 = .ok (.aload_n 0, 1) := by decide +kernel
theorem dX5_putHead_8 : decode cX5_putHead 8 = .ok (.iload_n 3, 1) := by decide +kernel
theorem dX5_putHead_9 : decode cX5_putHead 9 = .ok (.bipush 8, 2) := by decide +kernel
theorem dX5_putHead_11 : decode cX5_putHead 11 = .ok (.ishr, 1) := by decide +kernel
theorem dX5_putHead_12 : decode cX5_putHead 12 = .ok (.invokevirtual 36, 3) := by decide +kernel
theorem dX5_putHead_15 : decode cX5_putHead 15 = .ok (.aload_n 0, 1) := by decide +kernel
theorem dX5_putHead_16 : decode cX5_putHead 16 = .ok (.iload_n 3, 1) := by decide +kernel
theorem dX5_putHead_17 : decode cX5_putHead 17 = .ok (.invokevirtual 36, 3) := by decide +kernel
theorem dX5_putHead_20 : decode cX5_putHead 20 = .ok (.return_, 1) := by decide +kernel
set_option maxRecDepth 20000 in
theorem ggX5_putContent_X0_sizeOf : GoodIn wsX5_putContent wsX0_sizeOf := goodIn_r _ [5, 6, 23, 24] (by decide +kernel) (by decide +kernel)
set_option maxRecDepth 20000 in
theorem gX5_putContent_X0_sizeOf : GoodIn wsX5_putContent (wsV RX5 22 RX0 yX0_sizeOf wsX0_sizeOf) := goodIn_app (goodIn_of _ (by decide +kernel)) ggX5_putContent_X0_sizeOf
set_option maxRecDepth 20000 in
theorem ggX5_putContent_X0_byteAt : GoodIn wsX5_putContent wsX0_byteAt := goodIn_r _ [10, 11, 12, 2, 3, 4, 5, 6, 13, 14, 15, 23, 24] (by decide +kernel) (by decide +kernel)
set_option maxRecDepth 20000 in
theorem gX5_putContent_X0_byteAt : GoodIn wsX5_putContent (wsV RX5 44 RX0 yX0_byteAt wsX0_byteAt) := goodIn_app (goodIn_of _ (by decide +kernel)) ggX5_putContent_X0_byteAt
set_option maxRecDepth 20000 in
theorem ggX5_putContent_X5_putByte : GoodIn wsX5_putContent wsX5_putByte := goodIn_r _ [20, 21, 22, 25, 26, 27] (by decide +kernel) (by decide +kernel)
set_option maxRecDepth 20000 in
theorem gX5_putContent_X5_putByte : GoodIn wsX5_putContent (wsV RX5 36 RX5 yX5_putByte wsX5_putByte) := goodIn_app (goodIn_of _ (by decide +kernel)) ggX5_putContent_X5_putByte
theorem dX5_putContent_0 : decode cX5_putContent 0 = .ok (.aload_n 2, 1) := by decide +kernel
theorem dX5_putContent_1 : decode cX5_putContent 1 = .ok (.iload_n 1, 1) := by decide +kernel
theorem dX5_putContent_2 : decode cX5_putContent 2 = .ok (.invokevirtual 22, 3) := by decide +kernel
theorem dX5_putContent_5 : decode cX5_putContent 5 = .ok (.istore_n 3, 1) := by decide +kernel
theorem dX5_putContent_6 : decode cX5_putContent 6 = .ok (.iconst 0, 1) := by decide +kernel
theorem dX5_putContent_7 : decode cX5_putContent 7 = .ok (.istore 4, 2) := by decide +kernel
theorem dX5_putContent_9 : decode cX5_putContent 9 = .ok (.iload 4, 2) := by decide +kernel
theorem dX5_putContent_11 : decode cX5_putContent 11 = .ok (.iload_n 3, 1) := by decide +kernel
theorem dX5_putContent_12 : decode cX5_putContent 12 = .ok (.if_icmp .ge 20, 3) := by decide +kernel
theorem dX5_putContent_15 : decode cX5_putContent 15 = .ok (.aload_n 0, 1) := by decide +kernel
theorem dX5_putContent_16 : decode cX5_putContent 16 = .ok (.aload_n 2, 1) := by decide +kernel
theorem dX5_putContent_17 : decode cX5_putContent 17 = .ok (.iload_n 1, 1) := by decide +kernel
theorem dX5_putContent_18 : decode cX5_putContent 18 = .ok (.iload 4, 2) := by decide +kernel
theorem dX5_putContent_20 : decode cX5_putContent 20 = .ok (.invokevirtual 44, 3) := by decide +kernel
theorem dX5_putContent_23 : decode cX5_putContent 23 = .ok (.invokevirtual 36, 3) := by decide +kernel
theorem dX5_putContent_26 : decode cX5_putContent 26 = .ok (.iinc 4 1, 3) := by decide +kernel
theorem dX5_putContent_29 : decode cX5_putContent 29 = .ok (.goto (-20), 3) := by decide +kernel
theorem dX5_putContent_32 : decode cX5_putContent 32 = .ok (.return_, 1) := by decide +kernel
theorem dX5_putByte_0 : decode cX5_putByte 0 = .ok (.aload_n 0, 1) := by decide +kernel
theorem dX5_putByte_1 : decode cX5_putByte 1 = .ok (.getfield 19, 3) := by decide +kernel
theorem dX5_putByte_4 : decode cX5_putByte 4 = .ok (.sipush 439, 3) := by decide +kernel
theorem dX5_putByte_7 : decode cX5_putByte 7 = .ok (.if_icmp .ge 24, 3) := by decide +kernel
theorem dX5_putByte_10 : decode cX5_putByte 10 = .ok (.aload_n 0, 1) := by decide +kernel
theorem dX5_putByte_11 : decode cX5_putByte 11 = .ok (.getfield 9, 3) := by decide +kernel
theorem dX5_putByte_14 : decode cX5_putByte 14 = .ok (.aload_n 0, 1) := by decide +kernel
theorem dX5_putByte_15 : decode cX5_putByte 15 = .ok (.getfield 19, 3) := by decide +kernel
theorem dX5_putByte_18 : decode cX5_putByte 18 = .ok (.iload_n 1, 1) := by decide +kernel
theorem dX5_putByte_19 : decode cX5_putByte 19 = .ok (.i2b, 1) := by decide +kernel
theorem dX5_putByte_20 : decode cX5_putByte 20 = .ok (.bastore, 1) := by decide +kernel
theorem dX5_putByte_21 : decode cX5_putByte 21 = .ok (.aload_n 0, 1) := by decide +kernel
theorem dX5_putByte_22 : decode cX5_putByte 22 = .ok (.dup, 1) := by decide +kernel
theorem dX5_putByte_23 : decode cX5_putByte 23 = .ok (.getfield 19, 3) := by decide +kernel
theorem dX5_putByte_26 : decode cX5_putByte 26 = .ok (.iconst 1, 1) := by decide +kernel
theorem dX5_putByte_27 : decode cX5_putByte 27 = .ok (.iadd, 1) := by decide +kernel
theorem dX5_putByte_28 : decode cX5_putByte 28 = .ok (.putfield 19, 3) := by decide +kernel
theorem dX5_putByte_31 : decode cX5_putByte 31 = .ok (.return_, 1) := by decide +kernel
set_option maxRecDepth 20000 in
theorem ggX6_init_X0_init : GoodIn wsX6_init wsX0_init := goodIn_r _ [32, 33, 2, 3, 34, 35, 4, 36, 37, 38, 39, 8, 40, 41, 42, 43, 44, 102, 103] (by decide +kernel) (by decide +kernel)
set_option maxRecDepth 20000 in
theorem gX6_init_X0_init : GoodIn wsX6_init (wsX0_init) := ggX6_init_X0_init
set_option maxRecDepth 20000 in
theorem ggX6_init_X3_init : GoodIn wsX6_init wsX3_init := goodIn_r _ [47, 48, 2, 3, 49, 50, 51, 52, 53, 54, 55, 56, 7, 8, 57, 58, 31, 32, 33, 34, 35, 4, 36, 37, 38, 39, 40, 41, 42, 43, 44, 104, 105, 117, 118, 119, 120, 102, 103] (by decide +kernel) (by decide +kernel)
set_option maxRecDepth 20000 in
theorem gX6_init_X3_init : GoodIn wsX6_init (wsX3_init) := ggX6_init_X3_init
set_option maxRecDepth 20000 in
theorem ggX6_init_X1_init : GoodIn wsX6_init wsX1_init := goodIn_r _ [60, 61, 2, 3, 62, 7, 8, 63, 64, 31, 32, 33, 34, 35, 4, 36, 37, 38, 39, 40, 41, 42, 43, 44, 102, 103, 106, 107] (by decide +kernel) (by decide +kernel)
set_option maxRecDepth 20000 in
theorem gX6_init_X1_init_n35 : GoodIn wsX6_init (wsX1_init) := ggX6_init_X1_init
set_option maxRecDepth 20000 in
theorem ggX6_init_X5_init : GoodIn wsX6_init wsX5_init := goodIn_r _ [66, 67, 2, 3, 4, 68, 69, 108, 109, 110] (by decide +kernel) (by decide +kernel)
set_option maxRecDepth 20000 in
theorem gX6_init_X5_init_n42 : GoodIn wsX6_init (wsX5_init) := ggX6_init_X5_init
set_option maxRecDepth 20000 in
theorem ggX6_init_X4_init : GoodIn wsX6_init wsX4_init := goodIn_r _ [71, 72, 2, 3] (by decide +kernel) (by decide +kernel)
set_option maxRecDepth 20000 in
theorem gX6_init_X4_init_n57 : GoodIn wsX6_init (wsX4_init) := ggX6_init_X4_init
set_option maxRecDepth 20000 in
theorem ggX6_init_X0_keep : GoodIn wsX6_init wsX0_keep := goodIn_r _ [76, 36, 77, 78, 79, 80, 35, 81, 82, 8, 83, 84, 85, 86, 87, 88, 89, 102, 103] (by decide +kernel) (by decide +kernel)
set_option maxRecDepth 20000 in
theorem gX6_init_X0_keep : GoodIn wsX6_init (wsV RX6 61 RX0 yX0_keep wsX0_keep) := goodIn_app (goodIn_of _ (by decide +kernel)) ggX6_init_X0_keep
theorem dX6_init_0 : decode cX6_init 0 = .ok (.aload_n 0, 1) := by decide +kernel
theorem dX6_init_1 : decode cX6_init 1 = .ok (.invokespecial 1, 3) := by decide +kernel
theorem dX6_init_4 : decode cX6_init 4 = .ok (.aload_n 0, 1) := by decide +kernel
theorem dX6_init_5 : decode cX6_init 5 = .ok (.sipush 700, 3) := by decide +kernel
theorem dX6_init_8 : decode cX6_init 8 = .ok (.newarray .byte, 2) := by decide +kernel
theorem dX6_init_10 : decode cX6_init 10 = .ok (.putfield 9, 3) := by decide +kernel
theorem dX6_init_13 : decode cX6_init 13 = .ok (.aload_n 0, 1) := by decide +kernel
theorem dX6_init_14 : decode cX6_init 14 = .ok (.new 13, 3) := by decide +kernel
theorem dX6_init_17 : decode cX6_init 17 = .ok (.dup, 1) := by decide +kernel
theorem dX6_init_18 : decode cX6_init 18 = .ok (.invokespecial 15, 3) := by decide +kernel
theorem dX6_init_21 : decode cX6_init 21 = .ok (.putfield 16, 3) := by decide +kernel
theorem dX6_init_24 : decode cX6_init 24 = .ok (.aload_n 0, 1) := by decide +kernel
theorem dX6_init_25 : decode cX6_init 25 = .ok (.iconst 4, 1) := by decide +kernel
theorem dX6_init_26 : decode cX6_init 26 = .ok (.anewarray 20, 3) := by decide +kernel
theorem dX6_init_29 : decode cX6_init 29 = .ok (.putfield 22, 3) := by decide +kernel
theorem dX6_init_32 : decode cX6_init 32 = .ok (.aload_n 0, 1) := by decide +kernel
theorem dX6_init_33 : decode cX6_init 33 = .ok (.new 26, 3) := by decide +kernel
theorem dX6_init_36 : decode cX6_init 36 = .ok (.dup, 1) := by decide +kernel
theorem dX6_init_37 : decode cX6_init 37 = .ok (.invokespecial 28, 3) := by decide +kernel
theorem dX6_init_40 : decode cX6_init 40 = .ok (.putfield 29, 3) := by decide +kernel
theorem dX6_init_43 : decode cX6_init 43 = .ok (.aload_n 0, 1) := by decide +kernel
theorem dX6_init_44 : decode cX6_init 44 = .ok (.new 33, 3) := by decide +kernel
theorem dX6_init_47 : decode cX6_init 47 = .ok (.dup, 1) := by decide +kernel
theorem dX6_init_48 : decode cX6_init 48 = .ok (.invokespecial 35, 3) := by decide +kernel
theorem dX6_init_51 : decode cX6_init 51 = .ok (.putfield 36, 3) := by decide +kernel
theorem dX6_init_54 : decode cX6_init 54 = .ok (.aload_n 0, 1) := by decide +kernel
theorem dX6_init_55 : decode cX6_init 55 = .ok (.new 40, 3) := by decide +kernel
theorem dX6_init_58 : decode cX6_init 58 = .ok (.dup, 1) := by decide +kernel
theorem dX6_init_59 : decode cX6_init 59 = .ok (.invokespecial 42, 3) := by decide +kernel
theorem dX6_init_62 : decode cX6_init 62 = .ok (.putfield 43, 3) := by decide +kernel
theorem dX6_init_65 : decode cX6_init 65 = .ok (.aload_n 0, 1) := by decide +kernel
theorem dX6_init_66 : decode cX6_init 66 = .ok (.bipush 30, 2) := by decide +kernel
theorem dX6_init_68 : decode cX6_init 68 = .ok (.putfield 47, 3) := by decide +kernel
theorem dX6_init_71 : decode cX6_init 71 = .ok (.aload_n 0, 1) := by decide +kernel
theorem dX6_init_72 : decode cX6_init 72 = .ok (.iconst 4, 1) := by decide +kernel
theorem dX6_init_73 : decode cX6_init 73 = .ok (.putfield 51, 3) := by decide +kernel
theorem dX6_init_76 : decode cX6_init 76 = .ok (.aload_n 0, 1) := by decide +kernel
theorem dX6_init_77 : decode cX6_init 77 = .ok (.iconst 4, 1) := by decide +kernel
theorem dX6_init_78 : decode cX6_init 78 = .ok (.putfield 54, 3) := by decide +kernel
theorem dX6_init_81 : decode cX6_init 81 = .ok (.iconst 0, 1) := by decide +kernel
theorem dX6_init_82 : decode cX6_init 82 = .ok (.istore_n 1, 1) := by decide +kernel
theorem dX6_init_83 : decode cX6_init 83 = .ok (.iload_n 1, 1) := by decide +kernel
theorem dX6_init_84 : decode cX6_init 84 = .ok (.iconst 4, 1) := by decide +kernel
theorem dX6_init_85 : decode cX6_init 85 = .ok (.if_icmp .ge 22, 3) := by decide +kernel
theorem dX6_init_88 : decode cX6_init 88 = .ok (.aload_n 0, 1) := by decide +kernel
theorem dX6_init_89 : decode cX6_init 89 = .ok (.getfield 22, 3) := by decide +kernel
theorem dX6_init_92 : decode cX6_init 92 = .ok (.iload_n 1, 1) := by decide +kernel
theorem dX6_init_93 : decode cX6_init 93 = .ok (.new 20, 3) := by decide +kernel
theorem dX6_init_96 : decode cX6_init 96 = .ok (.dup, 1) := by decide +kernel
theorem dX6_init_97 : decode cX6_init 97 = .ok (.invokespecial 57, 3) := by decide +kernel
theorem dX6_init_100 : decode cX6_init 100 = .ok (.aastore, 1) := by decide +kernel
theorem dX6_init_101 : decode cX6_init 101 = .ok (.iinc 1 1, 3) := by decide +kernel
theorem dX6_init_104 : decode cX6_init 104 = .ok (.goto (-21), 3) := by decide +kernel
theorem dX6_init_107 : decode cX6_init 107 = .ok (.aload_n 0, 1) := by decide +kernel
theorem dX6_init_108 : decode cX6_init 108 = .ok (.getfield 16, 3) := by decide +kernel
theorem dX6_init_111 : decode cX6_init 111 = .ok (.iconst 1, 1) := by decide +kernel
theorem dX6_init_112 : decode cX6_init 112 = .ok (.getstatic 58, 3) := by decide +kernel
theorem dX6_init_115 : decode cX6_init 115 = .ok (.iconst 0, 1) := by decide +kernel
theorem dX6_init_116 : decode cX6_init 116 = .ok (.iconst 2, 1) := by decide +kernel
theorem dX6_init_117 : decode cX6_init 117 = .ok (.invokevirtual 61, 3) := by decide +kernel
theorem dX6_init_120 : decode cX6_init 120 = .ok (.aload_n 0, 1) := by decide +kernel
theorem dX6_init_121 : decode cX6_init 121 = .ok (.getfield 16, 3) := by decide +kernel
theorem dX6_init_124 : decode cX6_init 124 = .ok (.iconst 2, 1) := by decide +kernel
theorem dX6_init_125 : decode cX6_init 125 = .ok (.getstatic 58, 3) := by decide +kernel
theorem dX6_init_128 : decode cX6_init 128 = .ok (.iconst 0, 1) := by decide +kernel
theorem dX6_init_129 : decode cX6_init 129 = .ok (.iconst 2, 1) := by decide +kernel
theorem dX6_init_130 : decode cX6_init 130 = .ok (.invokevirtual 61, 3) := by decide +kernel
theorem dX6_init_133 : decode cX6_init 133 = .ok (.return_, 1) := by decide +kernel
theorem dX6_type_0 : decode cX6_type 0 = .ok (.iload_n 3, 1) := by decide +kernel
theorem dX6_type_1 : decode cX6_type 1 = .ok (.iconst 1, 1) := by decide +kernel
theorem dX6_type_2 : decode cX6_type 2 = .ok (.if_icmp .lt 21, 3) := by decide +kernel
theorem dX6_type_5 : decode cX6_type 5 = .ok (.iload_n 3, 1) := by decide +kernel
theorem dX6_type_6 : decode cX6_type 6 = .ok (.bipush 8, 2) := by decide +kernel
theorem dX6_type_8 : decode cX6_type 8 = .ok (.if_icmp .gt 15, 3) := by decide +kernel
theorem dX6_type_11 : decode cX6_type 11 = .ok (.aload_n 0, 1) := by decide +kernel
theorem dX6_type_12 : decode cX6_type 12 = .ok (.getfield 65, 3) := by decide +kernel
theorem dX6_type_15 : decode cX6_type 15 = .ok (.iload_n 3, 1) := by decide +kernel
theorem dX6_type_16 : decode cX6_type 16 = .ok (.iadd, 1) := by decide +kernel
theorem dX6_type_17 : decode cX6_type 17 = .ok (.sipush 700, 3) := by decide +kernel
theorem dX6_type_20 : decode cX6_type 20 = .ok (.if_icmp .le 5, 3) := by decide +kernel
theorem dX6_type_23 : decode cX6_type 23 = .ok (.iconst (-1), 1) := by decide +kernel
theorem dX6_type_24 : decode cX6_type 24 = .ok (.ireturn, 1) := by decide +kernel
theorem dX6_type_25 : decode cX6_type 25 = .ok (.iload_n 3, 1) := by decide +kernel
theorem dX6_type_26 : decode cX6_type 26 = .ok (.iconst 1, 1) := by decide +kernel
theorem dX6_type_27 : decode cX6_type 27 = .ok (.isub, 1) := by decide +kernel
theorem dX6_type_28 : decode cX6_type 28 = .ok (.istore 4, 2) := by decide +kernel
theorem dX6_type_30 : decode cX6_type 30 = .ok (.iload 4, 2) := by decide +kernel
theorem dX6_type_32 : decode cX6_type 32 = .ok (.ifCond .lt 37, 3) := by decide +kernel
theorem dX6_type_35 : decode cX6_type 35 = .ok (.aload_n 0, 1) := by decide +kernel
theorem dX6_type_36 : decode cX6_type 36 = .ok (.getfield 9, 3) := by decide +kernel
theorem dX6_type_39 : decode cX6_type 39 = .ok (.aload_n 0, 1) := by decide +kernel
theorem dX6_type_40 : decode cX6_type 40 = .ok (.getfield 65, 3) := by decide +kernel
theorem dX6_type_43 : decode cX6_type 43 = .ok (.lload_n 1, 1) := by decide +kernel
theorem dX6_type_44 : decode cX6_type 44 = .ok (.bipush 8, 2) := by decide +kernel
theorem dX6_type_46 : decode cX6_type 46 = .ok (.iload 4, 2) := by decide +kernel
theorem dX6_type_48 : decode cX6_type 48 = .ok (.imul, 1) := by decide +kernel
theorem dX6_type_49 : decode cX6_type 49 = .ok (.lushr, 1) := by decide +kernel
theorem dX6_type_50 : decode cX6_type 50 = .ok (.l2i, 1) := by decide +kernel
theorem dX6_type_51 : decode cX6_type 51 = .ok (.i2b, 1) := by decide +kernel
theorem dX6_type_52 : decode cX6_type 52 = .ok (.bastore, 1) := by decide +kernel
theorem dX6_type_53 : decode cX6_type 53 = .ok (.aload_n 0, 1) := by decide +kernel
theorem dX6_type_54 : decode cX6_type 54 = .ok (.dup, 1) := by decide +kernel
theorem dX6_type_55 : decode cX6_type 55 = .ok (.getfield 65, 3) := by decide +kernel
theorem dX6_type_58 : decode cX6_type 58 = .ok (.iconst 1, 1) := by decide +kernel
theorem dX6_type_59 : decode cX6_type 59 = .ok (.iadd, 1) := by decide +kernel
theorem dX6_type_60 : decode cX6_type 60 = .ok (.putfield 65, 3) := by decide +kernel
theorem dX6_type_63 : decode cX6_type 63 = .ok (.iinc 4 (-1), 3) := by decide +kernel
theorem dX6_type_66 : decode cX6_type 66 = .ok (.goto (-36), 3) := by decide +kernel
theorem dX6_type_69 : decode cX6_type 69 = .ok (.aload_n 0, 1) := by decide +kernel
theorem dX6_type_70 : decode cX6_type 70 = .ok (.getfield 65, 3) := by decide +kernel
theorem dX6_type_73 : decode cX6_type 73 = .ok (.ireturn, 1) := by decide +kernel
set_option maxRecDepth 20000 in
theorem ggX6_tell_X6_isTellable : GoodIn wsX6_tell wsX6_isTellable := goodIn_r _ [5, 6, 7, 4, 8] (by decide +kernel) (by decide +kernel)
set_option maxRecDepth 20000 in
theorem gX6_tell_X6_isTellable : GoodIn wsX6_tell (va_wsS RX6 68 yX6_isTellable wsX6_isTellable) := goodIn_app (goodIn_of _ (by decide +kernel)) ggX6_tell_X6_isTellable
set_option maxRecDepth 20000 in
theorem ggX6_tell_X6_tellNothing : GoodIn wsX6_tell wsX6_tellNothing := goodIn_r _ [12, 13, 14, 15, 16, 17, 18, 19, 20, 21, 22, 23, 24, 25, 26, 27, 28, 29, 30, 31, 4, 32, 33, 34, 35, 36, 37, 38, 39, 40, 65, 66, 67, 68, 69, 70, 71, 72, 73, 74, 75, 76, 77, 78, 79, 80, 81, 82, 83, 84] (by decide +kernel) (by decide +kernel)
set_option maxRecDepth 20000 in
theorem gX6_tell_X6_tellNothing : GoodIn wsX6_tell (wsV RX6 72 RX6 yX6_tellNothing wsX6_tellNothing) := goodIn_app (goodIn_of _ (by decide +kernel)) ggX6_tell_X6_tellNothing
set_option maxRecDepth 20000 in
theorem ggX6_tell_X6_tellTyped : GoodIn wsX6_tell wsX6_tellTyped := goodIn_r _ [44, 13, 45, 1, 46, 47, 48, 17, 49, 50, 19, 20, 21, 22, 23, 51, 52, 53, 54, 55, 56, 57, 58, 59, 60, 61, 62, 63, 64, 7, 4, 8, 29, 30, 31, 32, 33, 34, 35, 36, 37, 38, 39, 40, 65, 66, 67, 68, 69, 70, 71, 72, 73, 74, 75, 76, 77, 78, 79, 80, 81, 82, 83, 84] (by decide +kernel) (by decide +kernel)
set_option maxRecDepth 20000 in
theorem gX6_tell_X6_tellTyped : GoodIn wsX6_tell (wsV RX6 76 RX6 yX6_tellTyped wsX6_tellTyped) := goodIn_app (goodIn_of _ (by decide +kernel)) ggX6_tell_X6_tellTyped
theorem dX6_tell_0 : decode cX6_tell 0 = .ok (.iload_n 1, 1) := by decide +kernel
theorem dX6_tell_1 : decode cX6_tell 1 = .ok (.aload_n 0, 1) := by decide +kernel
theorem dX6_tell_2 : decode cX6_tell 2 = .ok (.getfield 65, 3) := by decide +kernel
theorem dX6_tell_5 : decode cX6_tell 5 = .ok (.invokestatic 68, 3) := by decide +kernel
theorem dX6_tell_8 : decode cX6_tell 8 = .ok (.ifCond .ne 5, 3) := by decide +kernel
theorem dX6_tell_11 : decode cX6_tell 11 = .ok (.iconst 0, 1) := by decide +kernel
theorem dX6_tell_12 : decode cX6_tell 12 = .ok (.ireturn, 1) := by decide +kernel
theorem dX6_tell_13 : decode cX6_tell 13 = .ok (.aload_n 0, 1) := by decide +kernel
theorem dX6_tell_14 : decode cX6_tell 14 = .ok (.getfield 65, 3) := by decide +kernel
theorem dX6_tell_17 : decode cX6_tell 17 = .ok (.ifCond .ne 11, 3) := by decide +kernel
theorem dX6_tell_20 : decode cX6_tell 20 = .ok (.aload_n 0, 1) := by decide +kernel
theorem dX6_tell_21 : decode cX6_tell 21 = .ok (.iload_n 1, 1) := by decide +kernel
theorem dX6_tell_22 : decode cX6_tell 22 = .ok (.invokevirtual 72, 3) := by decide +kernel
theorem dX6_tell_25 : decode cX6_tell 25 = .ok (.goto 8, 3) := by decide +kernel
theorem dX6_tell_28 : decode cX6_tell 28 = .ok (.aload_n 0, 1) := by decide +kernel
theorem dX6_tell_29 : decode cX6_tell 29 = .ok (.iload_n 1, 1) := by decide +kernel
theorem dX6_tell_30 : decode cX6_tell 30 = .ok (.invokevirtual 76, 3) := by decide +kernel
theorem dX6_tell_33 : decode cX6_tell 33 = .ok (.aload_n 0, 1) := by decide +kernel
theorem dX6_tell_34 : decode cX6_tell 34 = .ok (.iconst 0, 1) := by decide +kernel
theorem dX6_tell_35 : decode cX6_tell 35 = .ok (.putfield 65, 3) := by decide +kernel
theorem dX6_tell_38 : decode cX6_tell 38 = .ok (.iconst 1, 1) := by decide +kernel
theorem dX6_tell_39 : decode cX6_tell 39 = .ok (.ireturn, 1) := by decide +kernel
theorem dX6_set_0 : decode cX6_set 0 = .ok (.iload_n 1, 1) := by decide +kernel
theorem dX6_set_1 : decode cX6_set 1 = .ok (.ifCond .ne 22, 3) := by decide +kernel
theorem dX6_set_4 : decode cX6_set 4 = .ok (.iload_n 2, 1) := by decide +kernel
theorem dX6_set_5 : decode cX6_set 5 = .ok (.iconst 1, 1) := by decide +kernel
theorem dX6_set_6 : decode cX6_set 6 = .ok (.if_icmp .lt 17, 3) := by decide +kernel
theorem dX6_set_9 : decode cX6_set 9 = .ok (.iload_n 2, 1) := by decide +kernel
theorem dX6_set_10 : decode cX6_set 10 = .ok (.sipush 3600, 3) := by decide +kernel
theorem dX6_set_13 : decode cX6_set 13 = .ok (.if_icmp .gt 10, 3) := by decide +kernel
theorem dX6_set_16 : decode cX6_set 16 = .ok (.aload_n 0, 1) := by decide +kernel
theorem dX6_set_17 : decode cX6_set 17 = .ok (.iload_n 2, 1) := by decide +kernel
theorem dX6_set_18 : decode cX6_set 18 = .ok (.putfield 47, 3) := by decide +kernel
theorem dX6_set_21 : decode cX6_set 21 = .ok (.iconst 1, 1) := by decide +kernel
theorem dX6_set_22 : decode cX6_set 22 = .ok (.ireturn, 1) := by decide +kernel
theorem dX6_set_23 : decode cX6_set 23 = .ok (.iload_n 1, 1) := by decide +kernel
theorem dX6_set_24 : decode cX6_set 24 = .ok (.iconst 1, 1) := by decide +kernel
theorem dX6_set_25 : decode cX6_set 25 = .ok (.if_icmp .ne 21, 3) := by decide +kernel
theorem dX6_set_28 : decode cX6_set 28 = .ok (.iload_n 2, 1) := by decide +kernel
theorem dX6_set_29 : decode cX6_set 29 = .ok (.iconst 2, 1) := by decide +kernel
theorem dX6_set_30 : decode cX6_set 30 = .ok (.if_icmp .lt 16, 3) := by decide +kernel
theorem dX6_set_33 : decode cX6_set 33 = .ok (.iload_n 2, 1) := by decide +kernel
theorem dX6_set_34 : decode cX6_set 34 = .ok (.bipush 10, 2) := by decide +kernel
theorem dX6_set_36 : decode cX6_set 36 = .ok (.if_icmp .gt 10, 3) := by decide +kernel
theorem dX6_set_39 : decode cX6_set 39 = .ok (.aload_n 0, 1) := by decide +kernel
theorem dX6_set_40 : decode cX6_set 40 = .ok (.iload_n 2, 1) := by decide +kernel
theorem dX6_set_41 : decode cX6_set 41 = .ok (.putfield 51, 3) := by decide +kernel
theorem dX6_set_44 : decode cX6_set 44 = .ok (.iconst 1, 1) := by decide +kernel
theorem dX6_set_45 : decode cX6_set 45 = .ok (.ireturn, 1) := by decide +kernel
theorem dX6_set_46 : decode cX6_set 46 = .ok (.iload_n 1, 1) := by decide +kernel
theorem dX6_set_47 : decode cX6_set 47 = .ok (.iconst 2, 1) := by decide +kernel
theorem dX6_set_48 : decode cX6_set 48 = .ok (.if_icmp .ne 21, 3) := by decide +kernel
theorem dX6_set_51 : decode cX6_set 51 = .ok (.iload_n 2, 1) := by decide +kernel
theorem dX6_set_52 : decode cX6_set 52 = .ok (.iconst 1, 1) := by decide +kernel
theorem dX6_set_53 : decode cX6_set 53 = .ok (.if_icmp .lt 16, 3) := by decide +kernel
theorem dX6_set_56 : decode cX6_set 56 = .ok (.iload_n 2, 1) := by decide +kernel
theorem dX6_set_57 : decode cX6_set 57 = .ok (.bipush 8, 2) := by decide +kernel
theorem dX6_set_59 : decode cX6_set 59 = .ok (.if_icmp .gt 10, 3) := by decide +kernel
theorem dX6_set_62 : decode cX6_set 62 = .ok (.aload_n 0, 1) := by decide +kernel
theorem dX6_set_63 : decode cX6_set 63 = .ok (.iload_n 2, 1) := by decide +kernel
theorem dX6_set_64 : decode cX6_set 64 = .ok (.putfield 54, 3) := by decide +kernel
theorem dX6_set_67 : decode cX6_set 67 = .ok (.iconst 1, 1) := by decide +kernel
theorem dX6_set_68 : decode cX6_set 68 = .ok (.ireturn, 1) := by decide +kernel
theorem dX6_set_69 : decode cX6_set 69 = .ok (.iconst 0, 1) := by decide +kernel
theorem dX6_set_70 : decode cX6_set 70 = .ok (.ireturn, 1) := by decide +kernel
set_option maxRecDepth 20000 in
theorem ggX6_port_X6_isPort : GoodIn wsX6_port wsX6_isPort := goodIn_r _ [9] (by decide +kernel) (by decide +kernel)
set_option maxRecDepth 20000 in
theorem gX6_port_X6_isPort : GoodIn wsX6_port (va_wsS RX6 79 yX6_isPort wsX6_isPort) := goodIn_app (goodIn_of _ (by decide +kernel)) ggX6_port_X6_isPort
set_option maxRecDepth 20000 in
theorem ggX6_port_X4_isUp : GoodIn wsX6_port wsX4_isUp := goodIn_r _ [14, 15, 99, 100, 101, 102, 103, 104] (by decide +kernel) (by decide +kernel)
set_option maxRecDepth 20000 in
theorem gX6_port_X4_isUp : GoodIn wsX6_port (wsV RX6 83 RX4 yX4_isUp wsX4_isUp) := goodIn_app (goodIn_of _ (by decide +kernel)) ggX6_port_X4_isUp
set_option maxRecDepth 20000 in
theorem ggX6_port_X4_goUp : GoodIn wsX6_port wsX4_goUp := goodIn_r _ [19, 15, 20, 21, 99, 100, 101, 102, 103, 104] (by decide +kernel) (by decide +kernel)
set_option maxRecDepth 20000 in
theorem gX6_port_X4_goUp : GoodIn wsX6_port (wsV RX6 87 RX4 yX4_goUp wsX4_goUp) := goodIn_app (goodIn_of _ (by decide +kernel)) ggX6_port_X4_goUp
set_option maxRecDepth 20000 in
theorem ggX6_port_X4_goDown : GoodIn wsX6_port wsX4_goDown := goodIn_r _ [25, 15, 21, 26, 99, 100, 101, 102, 103, 104] (by decide +kernel) (by decide +kernel)
set_option maxRecDepth 20000 in
theorem gX6_port_X4_goDown : GoodIn wsX6_port (wsV RX6 90 RX4 yX4_goDown wsX4_goDown) := goodIn_app (goodIn_of _ (by decide +kernel)) ggX6_port_X4_goDown
set_option maxRecDepth 20000 in
theorem ggX6_port_X5_write : GoodIn wsX6_port wsX5_write := goodIn_r _ [31, 32, 33, 34, 35, 36, 37, 38, 39, 40, 41, 42, 30, 43, 44, 45, 46, 47, 48, 49, 50, 51, 52, 53, 54, 55, 56, 57, 58, 59, 60, 61, 62, 63, 64, 65, 105, 106, 107, 108, 109] (by decide +kernel) (by decide +kernel)
set_option maxRecDepth 20000 in
theorem gX6_port_X5_write : GoodIn wsX6_port (wsV RX6 93 RX5 yX5_write wsX5_write) := goodIn_app (goodIn_of _ (by decide +kernel)) ggX6_port_X5_write
set_option maxRecDepth 20000 in
theorem ggX6_port_X3_forgetAllAt : GoodIn wsX6_port wsX3_forgetAllAt := goodIn_r _ [70, 71, 72, 73, 74, 75, 76, 77, 78, 79, 80, 81, 69, 82, 83, 84, 85, 86, 110, 111, 112, 113, 114, 115] (by decide +kernel) (by decide +kernel)
set_option maxRecDepth 20000 in
theorem gX6_port_X3_forgetAllAt : GoodIn wsX6_port (wsV RX6 97 RX3 yX3_forgetAllAt wsX3_forgetAllAt) := goodIn_app (goodIn_of _ (by decide +kernel)) ggX6_port_X3_forgetAllAt
theorem dX6_port_0 : decode cX6_port 0 = .ok (.iload_n 1, 1) := by decide +kernel
theorem dX6_port_1 : decode cX6_port 1 = .ok (.invokestatic 79, 3) := by decide +kernel
theorem dX6_port_4 : decode cX6_port 4 = .ok (.ifCond .eq 34, 3) := by decide +kernel
theorem dX6_port_7 : decode cX6_port 7 = .ok (.iload_n 2, 1) := by decide +kernel
theorem dX6_port_8 : decode cX6_port 8 = .ok (.ifCond .lt 30, 3) := by decide +kernel
theorem dX6_port_11 : decode cX6_port 11 = .ok (.iload_n 2, 1) := by decide +kernel
theorem dX6_port_12 : decode cX6_port 12 = .ok (.iconst 1, 1) := by decide +kernel
theorem dX6_port_13 : decode cX6_port 13 = .ok (.if_icmp .gt 25, 3) := by decide +kernel
theorem dX6_port_16 : decode cX6_port 16 = .ok (.aload_n 0, 1) := by decide +kernel
theorem dX6_port_17 : decode cX6_port 17 = .ok (.getfield 22, 3) := by decide +kernel
theorem dX6_port_20 : decode cX6_port 20 = .ok (.iload_n 1, 1) := by decide +kernel
theorem dX6_port_21 : decode cX6_port 21 = .ok (.aaload, 1) := by decide +kernel
theorem dX6_port_22 : decode cX6_port 22 = .ok (.invokevirtual 83, 3) := by decide +kernel
theorem dX6_port_25 : decode cX6_port 25 = .ok (.iload_n 2, 1) := by decide +kernel
theorem dX6_port_26 : decode cX6_port 26 = .ok (.iconst 1, 1) := by decide +kernel
theorem dX6_port_27 : decode cX6_port 27 = .ok (.if_icmp .ne 7, 3) := by decide +kernel
theorem dX6_port_30 : decode cX6_port 30 = .ok (.iconst 1, 1) := by decide +kernel
theorem dX6_port_31 : decode cX6_port 31 = .ok (.goto 4, 3) := by decide +kernel
theorem dX6_port_34 : decode cX6_port 34 = .ok (.iconst 0, 1) := by decide +kernel
theorem dX6_port_35 : decode cX6_port 35 = .ok (.if_icmp .ne 5, 3) := by decide +kernel
theorem dX6_port_38 : decode cX6_port 38 = .ok (.iconst 0, 1) := by decide +kernel
theorem dX6_port_39 : decode cX6_port 39 = .ok (.ireturn, 1) := by decide +kernel
theorem dX6_port_40 : decode cX6_port 40 = .ok (.iload_n 2, 1) := by decide +kernel
theorem dX6_port_41 : decode cX6_port 41 = .ok (.iconst 1, 1) := by decide +kernel
theorem dX6_port_42 : decode cX6_port 42 = .ok (.if_icmp .ne 19, 3) := by decide +kernel
theorem dX6_port_45 : decode cX6_port 45 = .ok (.aload_n 0, 1) := by decide +kernel
theorem dX6_port_46 : decode cX6_port 46 = .ok (.getfield 22, 3) := by decide +kernel
theorem dX6_port_49 : decode cX6_port 49 = .ok (.iload_n 1, 1) := by decide +kernel
theorem dX6_port_50 : decode cX6_port 50 = .ok (.aaload, 1) := by decide +kernel
theorem dX6_port_51 : decode cX6_port 51 = .ok (.aload_n 0, 1) := by decide +kernel
theorem dX6_port_52 : decode cX6_port 52 = .ok (.getfield 54, 3) := by decide +kernel
theorem dX6_port_55 : decode cX6_port 55 = .ok (.invokevirtual 87, 3) := by decide +kernel
theorem dX6_port_58 : decode cX6_port 58 = .ok (.goto 33, 3) := by decide +kernel
theorem dX6_port_61 : decode cX6_port 61 = .ok (.aload_n 0, 1) := by decide +kernel
theorem dX6_port_62 : decode cX6_port 62 = .ok (.getfield 22, 3) := by decide +kernel
theorem dX6_port_65 : decode cX6_port 65 = .ok (.iload_n 1, 1) := by decide +kernel
theorem dX6_port_66 : decode cX6_port 66 = .ok (.aaload, 1) := by decide +kernel
theorem dX6_port_67 : decode cX6_port 67 = .ok (.invokevirtual 90, 3) := by decide +kernel
theorem dX6_port_70 : decode cX6_port 70 = .ok (.aload_n 0, 1) := by decide +kernel
theorem dX6_port_71 : decode cX6_port 71 = .ok (.getfield 43, 3) := by decide +kernel
theorem dX6_port_74 : decode cX6_port 74 = .ok (.iload_n 1, 1) := by decide +kernel
theorem dX6_port_75 : decode cX6_port 75 = .ok (.aload_n 0, 1) := by decide +kernel
theorem dX6_port_76 : decode cX6_port 76 = .ok (.getfield 16, 3) := by decide +kernel
theorem dX6_port_79 : decode cX6_port 79 = .ok (.iconst 0, 1) := by decide +kernel
theorem dX6_port_80 : decode cX6_port 80 = .ok (.invokevirtual 93, 3) := by decide +kernel
theorem dX6_port_83 : decode cX6_port 83 = .ok (.aload_n 0, 1) := by decide +kernel
theorem dX6_port_84 : decode cX6_port 84 = .ok (.getfield 29, 3) := by decide +kernel
theorem dX6_port_87 : decode cX6_port 87 = .ok (.iload_n 1, 1) := by decide +kernel
theorem dX6_port_88 : decode cX6_port 88 = .ok (.invokevirtual 97, 3) := by decide +kernel
theorem dX6_port_91 : decode cX6_port 91 = .ok (.iconst 1, 1) := by decide +kernel
theorem dX6_port_92 : decode cX6_port 92 = .ok (.ireturn, 1) := by decide +kernel
set_option maxRecDepth 20000 in
theorem ggX6_hear_X6_isPort : GoodIn wsX6_hear wsX6_isPort := goodIn_r _ [9] (by decide +kernel) (by decide +kernel)
set_option maxRecDepth 20000 in
theorem gX6_hear_X6_isPort : GoodIn wsX6_hear (va_wsS RX6 79 yX6_isPort wsX6_isPort) := goodIn_app (goodIn_of _ (by decide +kernel)) ggX6_hear_X6_isPort
set_option maxRecDepth 20000 in
theorem ggX6_hear_X4_isUp : GoodIn wsX6_hear wsX4_isUp := goodIn_r _ [14, 15, 173, 174, 175, 176, 177, 178] (by decide +kernel) (by decide +kernel)
set_option maxRecDepth 20000 in
theorem gX6_hear_X4_isUp : GoodIn wsX6_hear (wsV RX6 83 RX4 yX4_isUp wsX4_isUp) := goodIn_app (goodIn_of _ (by decide +kernel)) ggX6_hear_X4_isUp
set_option maxRecDepth 20000 in
theorem ggX6_hear_X1_read : GoodIn wsX6_hear wsX1_read := goodIn_r _ [20, 21, 22, 23, 24, 25, 26, 27, 28, 29, 30, 31, 32, 33, 19, 34, 35, 36, 37, 38, 39, 40, 41, 42, 43, 44, 45, 8, 46, 47, 48, 49, 50, 51, 52, 53, 54, 55, 56, 57, 58, 59, 60, 61, 62, 63, 64, 65, 66, 67, 68, 69, 70, 71, 72, 73, 74, 179, 180, 181, 182] (by decide +kernel) (by decide +kernel)
set_option maxRecDepth 20000 in
theorem gX6_hear_X1_read : GoodIn wsX6_hear (wsV RX6 100 RX1 yX1_read wsX1_read) := goodIn_app (goodIn_of _ (by decide +kernel)) ggX6_hear_X1_read
set_option maxRecDepth 20000 in
theorem ggX6_hear_X6_learn : GoodIn wsX6_hear wsX6_learn := goodIn_r _ [78, 79, 2, 1, 80, 81, 82, 83, 19, 84, 21, 85, 86, 87, 88, 89, 90, 91, 92, 93, 94, 95, 96, 97, 98, 99, 100, 101, 102, 103, 104, 105, 25, 106, 64, 72, 73, 74, 51, 52, 53, 54, 27, 107, 108, 109, 110, 111, 112, 113, 114, 59, 115, 116, 117, 118, 119, 120, 121, 122, 123, 124, 125, 126, 127, 128, 129, 130, 131, 132, 133, 134, 13, 135, 136, 137, 138, 139, 140, 141, 142, 143, 144, 145, 146, 147, 148, 149, 150, 151, 152, 153, 154, 161, 162, 163, 164, 165, 166, 167, 168, 169, 170, 171, 172, 179, 180, 183, 184, 185, 186, 187, 188, 181, 182, 173, 174, 175, 176, 177, 178] (by decide +kernel) (by decide +kernel)
set_option maxRecDepth 20000 in
theorem gX6_hear_X6_learn : GoodIn wsX6_hear (wsV RX6 104 RX6 yX6_learn wsX6_learn) := goodIn_app (goodIn_of _ (by decide +kernel)) ggX6_hear_X6_learn
set_option maxRecDepth 20000 in
theorem ggX6_hear_X4_noteHeard : GoodIn wsX6_hear wsX4_noteHeard := goodIn_r _ [158, 159, 160, 173, 174, 175, 176, 177, 178] (by decide +kernel) (by decide +kernel)
set_option maxRecDepth 20000 in
theorem gX6_hear_X4_noteHeard : GoodIn wsX6_hear (wsV RX6 108 RX4 yX4_noteHeard wsX4_noteHeard) := goodIn_app (goodIn_of _ (by decide +kernel)) ggX6_hear_X4_noteHeard
theorem dX6_hear_0 : decode cX6_hear 0 = .ok (.iload_n 1, 1) := by decide +kernel
theorem dX6_hear_1 : decode cX6_hear 1 = .ok (.invokestatic 79, 3) := by decide +kernel
theorem dX6_hear_4 : decode cX6_hear 4 = .ok (.ifCond .eq 15, 3) := by decide +kernel
theorem dX6_hear_7 : decode cX6_hear 7 = .ok (.aload_n 0, 1) := by decide +kernel
theorem dX6_hear_8 : decode cX6_hear 8 = .ok (.getfield 22, 3) := by decide +kernel
theorem dX6_hear_11 : decode cX6_hear 11 = .ok (.iload_n 1, 1) := by decide +kernel
theorem dX6_hear_12 : decode cX6_hear 12 = .ok (.aaload, 1) := by decide +kernel
theorem dX6_hear_13 : decode cX6_hear 13 = .ok (.invokevirtual 83, 3) := by decide +kernel
theorem dX6_hear_16 : decode cX6_hear 16 = .ok (.ifCond .ne 5, 3) := by decide +kernel
theorem dX6_hear_19 : decode cX6_hear 19 = .ok (.iconst (-1), 1) := by decide +kernel
theorem dX6_hear_20 : decode cX6_hear 20 = .ok (.ireturn, 1) := by decide +kernel
theorem dX6_hear_21 : decode cX6_hear 21 = .ok (.aload_n 0, 1) := by decide +kernel
theorem dX6_hear_22 : decode cX6_hear 22 = .ok (.getfield 36, 3) := by decide +kernel
theorem dX6_hear_25 : decode cX6_hear 25 = .ok (.aload_n 0, 1) := by decide +kernel
theorem dX6_hear_26 : decode cX6_hear 26 = .ok (.getfield 9, 3) := by decide +kernel
theorem dX6_hear_29 : decode cX6_hear 29 = .ok (.aload_n 0, 1) := by decide +kernel
theorem dX6_hear_30 : decode cX6_hear 30 = .ok (.getfield 65, 3) := by decide +kernel
theorem dX6_hear_33 : decode cX6_hear 33 = .ok (.invokevirtual 100, 3) := by decide +kernel
theorem dX6_hear_36 : decode cX6_hear 36 = .ok (.istore_n 2, 1) := by decide +kernel
theorem dX6_hear_37 : decode cX6_hear 37 = .ok (.aload_n 0, 1) := by decide +kernel
theorem dX6_hear_38 : decode cX6_hear 38 = .ok (.iconst 0, 1) := by decide +kernel
theorem dX6_hear_39 : decode cX6_hear 39 = .ok (.putfield 65, 3) := by decide +kernel
theorem dX6_hear_42 : decode cX6_hear 42 = .ok (.iload_n 2, 1) := by decide +kernel
theorem dX6_hear_43 : decode cX6_hear 43 = .ok (.ifCond .ne 9, 3) := by decide +kernel
theorem dX6_hear_46 : decode cX6_hear 46 = .ok (.aload_n 0, 1) := by decide +kernel
theorem dX6_hear_47 : decode cX6_hear 47 = .ok (.iload_n 1, 1) := by decide +kernel
theorem dX6_hear_48 : decode cX6_hear 48 = .ok (.invokevirtual 104, 3) := by decide +kernel
theorem dX6_hear_51 : decode cX6_hear 51 = .ok (.istore_n 2, 1) := by decide +kernel
theorem dX6_hear_52 : decode cX6_hear 52 = .ok (.aload_n 0, 1) := by decide +kernel
theorem dX6_hear_53 : decode cX6_hear 53 = .ok (.getfield 22, 3) := by decide +kernel
theorem dX6_hear_56 : decode cX6_hear 56 = .ok (.iload_n 1, 1) := by decide +kernel
theorem dX6_hear_57 : decode cX6_hear 57 = .ok (.aaload, 1) := by decide +kernel
theorem dX6_hear_58 : decode cX6_hear 58 = .ok (.iload_n 2, 1) := by decide +kernel
theorem dX6_hear_59 : decode cX6_hear 59 = .ok (.ifCond .ne 7, 3) := by decide +kernel
theorem dX6_hear_62 : decode cX6_hear 62 = .ok (.iconst 1, 1) := by decide +kernel
theorem dX6_hear_63 : decode cX6_hear 63 = .ok (.goto 4, 3) := by decide +kernel
theorem dX6_hear_66 : decode cX6_hear 66 = .ok (.iconst 0, 1) := by decide +kernel
theorem dX6_hear_67 : decode cX6_hear 67 = .ok (.invokevirtual 108, 3) := by decide +kernel
theorem dX6_hear_70 : decode cX6_hear 70 = .ok (.aload_n 0, 1) := by decide +kernel
theorem dX6_hear_71 : decode cX6_hear 71 = .ok (.iload_n 2, 1) := by decide +kernel
theorem dX6_hear_72 : decode cX6_hear 72 = .ok (.putfield 112, 3) := by decide +kernel
theorem dX6_hear_75 : decode cX6_hear 75 = .ok (.iload_n 2, 1) := by decide +kernel
theorem dX6_hear_76 : decode cX6_hear 76 = .ok (.ireturn, 1) := by decide +kernel
set_option maxRecDepth 20000 in
theorem ggX6_tick_X3_passTick : GoodIn wsX6_tick wsX3_passTick := goodIn_r _ [18, 19, 20, 21, 22, 23, 24, 25, 26, 27, 28, 29, 17, 30, 31, 32, 33, 34, 95, 96, 97, 98, 99, 100] (by decide +kernel) (by decide +kernel)
set_option maxRecDepth 20000 in
theorem gX6_tick_X3_passTick : GoodIn wsX6_tick (wsV RX6 119 RX3 yX3_passTick wsX3_passTick) := goodIn_app (goodIn_of _ (by decide +kernel)) ggX6_tick_X3_passTick
set_option maxRecDepth 20000 in
theorem ggX6_tick_X4_passTick : GoodIn wsX6_tick wsX4_passTick := goodIn_r _ [39, 40, 41, 42, 43, 101, 102, 103, 104, 105, 106] (by decide +kernel) (by decide +kernel)
set_option maxRecDepth 20000 in
theorem gX6_tick_X4_passTick : GoodIn wsX6_tick (wsV RX6 122 RX4 yX4_passTick wsX4_passTick) := goodIn_app (goodIn_of _ (by decide +kernel)) ggX6_tick_X4_passTick
set_option maxRecDepth 20000 in
theorem ggX6_tick_X5_write : GoodIn wsX6_tick wsX5_write := goodIn_r _ [48, 49, 50, 51, 52, 53, 54, 55, 56, 57, 58, 59, 47, 60, 61, 62, 63, 64, 65, 66, 67, 68, 69, 70, 71, 72, 73, 74, 75, 76, 77, 78, 79, 80, 81, 82, 107, 108, 109, 110, 111] (by decide +kernel) (by decide +kernel)
set_option maxRecDepth 20000 in
theorem gX6_tick_X5_write : GoodIn wsX6_tick (wsV RX6 93 RX5 yX5_write wsX5_write) := goodIn_app (goodIn_of _ (by decide +kernel)) ggX6_tick_X5_write
theorem dX6_tick_0 : decode cX6_tick 0 = .ok (.iload_n 1, 1) := by decide +kernel
theorem dX6_tick_1 : decode cX6_tick 1 = .ok (.iconst 1, 1) := by decide +kernel
theorem dX6_tick_2 : decode cX6_tick 2 = .ok (.if_icmp .lt 10, 3) := by decide +kernel
theorem dX6_tick_5 : decode cX6_tick 5 = .ok (.iload_n 1, 1) := by decide +kernel
theorem dX6_tick_6 : decode cX6_tick 6 = .ok (.sipush 5000, 3) := by decide +kernel
theorem dX6_tick_9 : decode cX6_tick 9 = .ok (.if_icmp .le 5, 3) := by decide +kernel
theorem dX6_tick_12 : decode cX6_tick 12 = .ok (.iconst (-1), 1) := by decide +kernel
theorem dX6_tick_13 : decode cX6_tick 13 = .ok (.ireturn, 1) := by decide +kernel
theorem dX6_tick_14 : decode cX6_tick 14 = .ok (.iconst 0, 1) := by decide +kernel
theorem dX6_tick_15 : decode cX6_tick 15 = .ok (.istore_n 2, 1) := by decide +kernel
theorem dX6_tick_16 : decode cX6_tick 16 = .ok (.iconst (-1), 1) := by decide +kernel
theorem dX6_tick_17 : decode cX6_tick 17 = .ok (.istore_n 3, 1) := by decide +kernel
theorem dX6_tick_18 : decode cX6_tick 18 = .ok (.iconst 0, 1) := by decide +kernel
theorem dX6_tick_19 : decode cX6_tick 19 = .ok (.istore 4, 2) := by decide +kernel
theorem dX6_tick_21 : decode cX6_tick 21 = .ok (.iload 4, 2) := by decide +kernel
theorem dX6_tick_23 : decode cX6_tick 23 = .ok (.iload_n 1, 1) := by decide +kernel
theorem dX6_tick_24 : decode cX6_tick 24 = .ok (.if_icmp .ge 67, 3) := by decide +kernel
theorem dX6_tick_27 : decode cX6_tick 27 = .ok (.aload_n 0, 1) := by decide +kernel
theorem dX6_tick_28 : decode cX6_tick 28 = .ok (.aload_n 0, 1) := by decide +kernel
theorem dX6_tick_29 : decode cX6_tick 29 = .ok (.getfield 115, 3) := by decide +kernel
theorem dX6_tick_32 : decode cX6_tick 32 = .ok (.iconst 1, 1) := by decide +kernel
theorem dX6_tick_33 : decode cX6_tick 33 = .ok (.iadd, 1) := by decide +kernel
theorem dX6_tick_34 : decode cX6_tick 34 = .ok (.ldc 118, 2) := by decide +kernel
theorem dX6_tick_36 : decode cX6_tick 36 = .ok (.iand, 1) := by decide +kernel
theorem dX6_tick_37 : decode cX6_tick 37 = .ok (.putfield 115, 3) := by decide +kernel
theorem dX6_tick_40 : decode cX6_tick 40 = .ok (.aload_n 0, 1) := by decide +kernel
theorem dX6_tick_41 : decode cX6_tick 41 = .ok (.getfield 29, 3) := by decide +kernel
theorem dX6_tick_44 : decode cX6_tick 44 = .ok (.invokevirtual 119, 3) := by decide +kernel
theorem dX6_tick_47 : decode cX6_tick 47 = .ok (.iconst 0, 1) := by decide +kernel
theorem dX6_tick_48 : decode cX6_tick 48 = .ok (.istore 5, 2) := by decide +kernel
theorem dX6_tick_50 : decode cX6_tick 50 = .ok (.iload 5, 2) := by decide +kernel
theorem dX6_tick_52 : decode cX6_tick 52 = .ok (.iconst 4, 1) := by decide +kernel
theorem dX6_tick_53 : decode cX6_tick 53 = .ok (.if_icmp .ge 32, 3) := by decide +kernel
theorem dX6_tick_56 : decode cX6_tick 56 = .ok (.aload_n 0, 1) := by decide +kernel
theorem dX6_tick_57 : decode cX6_tick 57 = .ok (.getfield 22, 3) := by decide +kernel
theorem dX6_tick_60 : decode cX6_tick 60 = .ok (.iload 5, 2) := by decide +kernel
theorem dX6_tick_62 : decode cX6_tick 62 = .ok (.aaload, 1) := by decide +kernel
theorem dX6_tick_63 : decode cX6_tick 63 = .ok (.aload_n 0, 1) := by decide +kernel
theorem dX6_tick_64 : decode cX6_tick 64 = .ok (.getfield 47, 3) := by decide +kernel
theorem dX6_tick_67 : decode cX6_tick 67 = .ok (.invokevirtual 122, 3) := by decide +kernel
theorem dX6_tick_70 : decode cX6_tick 70 = .ok (.ifCond .eq 9, 3) := by decide +kernel
theorem dX6_tick_73 : decode cX6_tick 73 = .ok (.iinc 2 1, 3) := by decide +kernel
theorem dX6_tick_76 : decode cX6_tick 76 = .ok (.iload 5, 2) := by decide +kernel
theorem dX6_tick_78 : decode cX6_tick 78 = .ok (.istore_n 3, 1) := by decide +kernel
theorem dX6_tick_79 : decode cX6_tick 79 = .ok (.iinc 5 1, 3) := by decide +kernel
theorem dX6_tick_82 : decode cX6_tick 82 = .ok (.goto (-32), 3) := by decide +kernel
theorem dX6_tick_85 : decode cX6_tick 85 = .ok (.iinc 4 1, 3) := by decide +kernel
theorem dX6_tick_88 : decode cX6_tick 88 = .ok (.goto (-67), 3) := by decide +kernel
theorem dX6_tick_91 : decode cX6_tick 91 = .ok (.iload_n 3, 1) := by decide +kernel
theorem dX6_tick_92 : decode cX6_tick 92 = .ok (.iconst (-1), 1) := by decide +kernel
theorem dX6_tick_93 : decode cX6_tick 93 = .ok (.if_icmp .eq 31, 3) := by decide +kernel
theorem dX6_tick_96 : decode cX6_tick 96 = .ok (.aload_n 0, 1) := by decide +kernel
theorem dX6_tick_97 : decode cX6_tick 97 = .ok (.getfield 43, 3) := by decide +kernel
theorem dX6_tick_100 : decode cX6_tick 100 = .ok (.iload_n 3, 1) := by decide +kernel
theorem dX6_tick_101 : decode cX6_tick 101 = .ok (.aload_n 0, 1) := by decide +kernel
theorem dX6_tick_102 : decode cX6_tick 102 = .ok (.getfield 16, 3) := by decide +kernel
theorem dX6_tick_105 : decode cX6_tick 105 = .ok (.aload_n 0, 1) := by decide +kernel
theorem dX6_tick_106 : decode cX6_tick 106 = .ok (.getfield 47, 3) := by decide +kernel
theorem dX6_tick_109 : decode cX6_tick 109 = .ok (.aload_n 0, 1) := by decide +kernel
theorem dX6_tick_110 : decode cX6_tick 110 = .ok (.getfield 51, 3) := by decide +kernel
theorem dX6_tick_113 : decode cX6_tick 113 = .ok (.imul, 1) := by decide +kernel
theorem dX6_tick_114 : decode cX6_tick 114 = .ok (.iconst 1, 1) := by decide +kernel
theorem dX6_tick_115 : decode cX6_tick 115 = .ok (.iadd, 1) := by decide +kernel
theorem dX6_tick_116 : decode cX6_tick 116 = .ok (.ldc 124, 2) := by decide +kernel
theorem dX6_tick_118 : decode cX6_tick 118 = .ok (.invokestatic 125, 3) := by decide +kernel
theorem dX6_tick_121 : decode cX6_tick 121 = .ok (.invokevirtual 93, 3) := by decide +kernel
theorem dX6_tick_124 : decode cX6_tick 124 = .ok (.iload_n 2, 1) := by decide +kernel
theorem dX6_tick_125 : decode cX6_tick 125 = .ok (.ireturn, 1) := by decide +kernel
set_option maxRecDepth 20000 in
theorem ggX6_about_X6_isPort : GoodIn wsX6_about wsX6_isPort := goodIn_r _ [6] (by decide +kernel) (by decide +kernel)
set_option maxRecDepth 20000 in
theorem gX6_about_X6_isPort : GoodIn wsX6_about (va_wsS RX6 79 yX6_isPort wsX6_isPort) := goodIn_app (goodIn_of _ (by decide +kernel)) ggX6_about_X6_isPort
set_option maxRecDepth 20000 in
theorem ggX6_about_X3_sizeAt : GoodIn wsX6_about wsX3_sizeAt := goodIn_r _ [11, 12, 13, 14, 15, 16, 17, 18, 19, 43, 44, 45, 46, 47, 48] (by decide +kernel) (by decide +kernel)
set_option maxRecDepth 20000 in
theorem gX6_about_X3_sizeAt : GoodIn wsX6_about (wsV RX6 131 RX3 yX3_sizeAt wsX3_sizeAt) := goodIn_app (goodIn_of _ (by decide +kernel)) ggX6_about_X3_sizeAt
set_option maxRecDepth 20000 in
theorem ggX6_about_X4_tellAbout : GoodIn wsX6_about wsX4_tellAbout := goodIn_r _ [24, 25, 26, 27, 28, 29, 30, 49, 50, 51, 52, 53, 54] (by decide +kernel) (by decide +kernel)
set_option maxRecDepth 20000 in
theorem gX6_about_X4_tellAbout : GoodIn wsX6_about (wsV RX6 134 RX4 yX4_tellAbout wsX4_tellAbout) := goodIn_app (goodIn_of _ (by decide +kernel)) ggX6_about_X4_tellAbout
theorem dX6_about_0 : decode cX6_about 0 = .ok (.iload_n 1, 1) := by decide +kernel
theorem dX6_about_1 : decode cX6_about 1 = .ok (.invokestatic 79, 3) := by decide +kernel
theorem dX6_about_4 : decode cX6_about 4 = .ok (.ifCond .ne 5, 3) := by decide +kernel
theorem dX6_about_7 : decode cX6_about 7 = .ok (.iconst (-1), 1) := by decide +kernel
theorem dX6_about_8 : decode cX6_about 8 = .ok (.ireturn, 1) := by decide +kernel
theorem dX6_about_9 : decode cX6_about 9 = .ok (.iload_n 2, 1) := by decide +kernel
theorem dX6_about_10 : decode cX6_about 10 = .ok (.iconst 4, 1) := by decide +kernel
theorem dX6_about_11 : decode cX6_about 11 = .ok (.if_icmp .ne 12, 3) := by decide +kernel
theorem dX6_about_14 : decode cX6_about 14 = .ok (.aload_n 0, 1) := by decide +kernel
theorem dX6_about_15 : decode cX6_about 15 = .ok (.getfield 29, 3) := by decide +kernel
theorem dX6_about_18 : decode cX6_about 18 = .ok (.iload_n 1, 1) := by decide +kernel
theorem dX6_about_19 : decode cX6_about 19 = .ok (.invokevirtual 131, 3) := by decide +kernel
theorem dX6_about_22 : decode cX6_about 22 = .ok (.ireturn, 1) := by decide +kernel
theorem dX6_about_23 : decode cX6_about 23 = .ok (.aload_n 0, 1) := by decide +kernel
theorem dX6_about_24 : decode cX6_about 24 = .ok (.getfield 22, 3) := by decide +kernel
theorem dX6_about_27 : decode cX6_about 27 = .ok (.iload_n 1, 1) := by decide +kernel
theorem dX6_about_28 : decode cX6_about 28 = .ok (.aaload, 1) := by decide +kernel
theorem dX6_about_29 : decode cX6_about 29 = .ok (.iload_n 2, 1) := by decide +kernel
theorem dX6_about_30 : decode cX6_about 30 = .ok (.invokevirtual 134, 3) := by decide +kernel
theorem dX6_about_33 : decode cX6_about 33 = .ok (.ireturn, 1) := by decide +kernel
set_option maxRecDepth 20000 in
theorem ggX6_count_X3_size : GoodIn wsX6_count wsX3_size := goodIn_r _ [10, 11, 35, 36] (by decide +kernel) (by decide +kernel)
set_option maxRecDepth 20000 in
theorem gX6_count_X3_size : GoodIn wsX6_count (wsV RX6 137 RX3 yX3_size wsX3_size) := goodIn_app (goodIn_of _ (by decide +kernel)) ggX6_count_X3_size
set_option maxRecDepth 20000 in
theorem ggX6_count_X5_portOf : GoodIn wsX6_count wsX5_portOf := goodIn_r _ [16, 17, 37, 38, 39] (by decide +kernel) (by decide +kernel)
set_option maxRecDepth 20000 in
theorem gX6_count_X5_portOf : GoodIn wsX6_count (wsV RX6 141 RX5 yX5_portOf wsX5_portOf) := goodIn_app (goodIn_of _ (by decide +kernel)) ggX6_count_X5_portOf
set_option maxRecDepth 20000 in
theorem ggX6_count_X5_length : GoodIn wsX6_count wsX5_length := goodIn_r _ [21, 22, 37, 38, 39] (by decide +kernel) (by decide +kernel)
set_option maxRecDepth 20000 in
theorem gX6_count_X5_length : GoodIn wsX6_count (wsV RX6 144 RX5 yX5_length wsX5_length) := goodIn_app (goodIn_of _ (by decide +kernel)) ggX6_count_X5_length
theorem dX6_count_0 : decode cX6_count 0 = .ok (.iload_n 1, 1) := by decide +kernel
theorem dX6_count_1 : decode cX6_count 1 = .ok (.tableswitch 78 0 5 #[39, 47, 52, 57, 62, 70], 39) := by decide +kernel
theorem dX6_count_40 : decode cX6_count 40 = .ok (.aload_n 0, 1) := by decide +kernel
theorem dX6_count_41 : decode cX6_count 41 = .ok (.getfield 29, 3) := by decide +kernel
theorem dX6_count_44 : decode cX6_count 44 = .ok (.invokevirtual 137, 3) := by decide +kernel
theorem dX6_count_47 : decode cX6_count 47 = .ok (.ireturn, 1) := by decide +kernel
theorem dX6_count_48 : decode cX6_count 48 = .ok (.aload_n 0, 1) := by decide +kernel
theorem dX6_count_49 : decode cX6_count 49 = .ok (.getfield 115, 3) := by decide +kernel
theorem dX6_count_52 : decode cX6_count 52 = .ok (.ireturn, 1) := by decide +kernel
theorem dX6_count_53 : decode cX6_count 53 = .ok (.aload_n 0, 1) := by decide +kernel
theorem dX6_count_54 : decode cX6_count 54 = .ok (.getfield 112, 3) := by decide +kernel
theorem dX6_count_57 : decode cX6_count 57 = .ok (.ireturn, 1) := by decide +kernel
theorem dX6_count_58 : decode cX6_count 58 = .ok (.aload_n 0, 1) := by decide +kernel
theorem dX6_count_59 : decode cX6_count 59 = .ok (.getfield 65, 3) := by decide +kernel
theorem dX6_count_62 : decode cX6_count 62 = .ok (.ireturn, 1) := by decide +kernel
theorem dX6_count_63 : decode cX6_count 63 = .ok (.aload_n 0, 1) := by decide +kernel
theorem dX6_count_64 : decode cX6_count 64 = .ok (.getfield 43, 3) := by decide +kernel
theorem dX6_count_67 : decode cX6_count 67 = .ok (.invokevirtual 141, 3) := by decide +kernel
theorem dX6_count_70 : decode cX6_count 70 = .ok (.ireturn, 1) := by decide +kernel
theorem dX6_count_71 : decode cX6_count 71 = .ok (.aload_n 0, 1) := by decide +kernel
theorem dX6_count_72 : decode cX6_count 72 = .ok (.getfield 43, 3) := by decide +kernel
theorem dX6_count_75 : decode cX6_count 75 = .ok (.invokevirtual 144, 3) := by decide +kernel
theorem dX6_count_78 : decode cX6_count 78 = .ok (.ireturn, 1) := by decide +kernel
theorem dX6_count_79 : decode cX6_count 79 = .ok (.iconst (-1), 1) := by decide +kernel
theorem dX6_count_80 : decode cX6_count 80 = .ok (.ireturn, 1) := by decide +kernel
set_option maxRecDepth 20000 in
theorem ggX6_sent_X5_byteAt : GoodIn wsX6_sent wsX5_byteAt := goodIn_r _ [6, 7, 8, 21, 22, 23] (by decide +kernel) (by decide +kernel)
set_option maxRecDepth 20000 in
theorem gX6_sent_X5_byteAt : GoodIn wsX6_sent (wsV RX6 147 RX5 yX5_byteAt wsX5_byteAt) := goodIn_app (goodIn_of _ (by decide +kernel)) ggX6_sent_X5_byteAt
theorem dX6_sent_0 : decode cX6_sent 0 = .ok (.aload_n 0, 1) := by decide +kernel
theorem dX6_sent_1 : decode cX6_sent 1 = .ok (.getfield 43, 3) := by decide +kernel
theorem dX6_sent_4 : decode cX6_sent 4 = .ok (.iload_n 1, 1) := by decide +kernel
theorem dX6_sent_5 : decode cX6_sent 5 = .ok (.invokevirtual 147, 3) := by decide +kernel
theorem dX6_sent_8 : decode cX6_sent 8 = .ok (.ireturn, 1) := by decide +kernel
set_option maxRecDepth 20000 in
theorem ggX6_neighbor_X3_has : GoodIn wsX6_neighbor wsX3_has := goodIn_r _ [6, 7, 48, 49] (by decide +kernel) (by decide +kernel)
set_option maxRecDepth 20000 in
theorem gX6_neighbor_X3_has : GoodIn wsX6_neighbor (wsV RX6 150 RX3 yX3_has wsX3_has) := goodIn_app (goodIn_of _ (by decide +kernel)) ggX6_neighbor_X3_has
set_option maxRecDepth 20000 in
theorem ggX6_neighbor_X3_at : GoodIn wsX6_neighbor wsX3_at := goodIn_r _ [11, 12, 48, 49] (by decide +kernel) (by decide +kernel)
set_option maxRecDepth 20000 in
theorem gX6_neighbor_X3_at : GoodIn wsX6_neighbor (wsV RX6 153 RX3 yX3_at wsX3_at) := goodIn_app (goodIn_of _ (by decide +kernel)) ggX6_neighbor_X3_at
set_option maxRecDepth 20000 in
theorem ggX6_neighbor_X2_tellAbout : GoodIn wsX6_neighbor wsX2_tellAbout := goodIn_r _ [17, 18, 19, 20, 21, 22, 23, 24, 25, 26, 27, 28, 29, 30, 31, 32, 33, 34, 35, 50, 51, 52, 53, 54, 55] (by decide +kernel) (by decide +kernel)
set_option maxRecDepth 20000 in
theorem gX6_neighbor_X2_tellAbout : GoodIn wsX6_neighbor (wsV RX6 157 RX2 yX2_tellAbout wsX2_tellAbout) := goodIn_app (goodIn_of _ (by decide +kernel)) ggX6_neighbor_X2_tellAbout
theorem dX6_neighbor_0 : decode cX6_neighbor 0 = .ok (.aload_n 0, 1) := by decide +kernel
theorem dX6_neighbor_1 : decode cX6_neighbor 1 = .ok (.getfield 29, 3) := by decide +kernel
theorem dX6_neighbor_4 : decode cX6_neighbor 4 = .ok (.iload_n 1, 1) := by decide +kernel
theorem dX6_neighbor_5 : decode cX6_neighbor 5 = .ok (.invokevirtual 150, 3) := by decide +kernel
theorem dX6_neighbor_8 : decode cX6_neighbor 8 = .ok (.ifCond .ne 5, 3) := by decide +kernel
theorem dX6_neighbor_11 : decode cX6_neighbor 11 = .ok (.iconst (-1), 1) := by decide +kernel
theorem dX6_neighbor_12 : decode cX6_neighbor 12 = .ok (.ireturn, 1) := by decide +kernel
theorem dX6_neighbor_13 : decode cX6_neighbor 13 = .ok (.aload_n 0, 1) := by decide +kernel
theorem dX6_neighbor_14 : decode cX6_neighbor 14 = .ok (.getfield 29, 3) := by decide +kernel
theorem dX6_neighbor_17 : decode cX6_neighbor 17 = .ok (.iload_n 1, 1) := by decide +kernel
theorem dX6_neighbor_18 : decode cX6_neighbor 18 = .ok (.invokevirtual 153, 3) := by decide +kernel
theorem dX6_neighbor_21 : decode cX6_neighbor 21 = .ok (.iload_n 2, 1) := by decide +kernel
theorem dX6_neighbor_22 : decode cX6_neighbor 22 = .ok (.invokevirtual 157, 3) := by decide +kernel
theorem dX6_neighbor_25 : decode cX6_neighbor 25 = .ok (.ireturn, 1) := by decide +kernel
set_option maxRecDepth 20000 in
theorem ggX6_content_X3_has : GoodIn wsX6_content wsX3_has := goodIn_r _ [6, 7, 46, 47] (by decide +kernel) (by decide +kernel)
set_option maxRecDepth 20000 in
theorem gX6_content_X3_has : GoodIn wsX6_content (wsV RX6 150 RX3 yX3_has wsX3_has) := goodIn_app (goodIn_of _ (by decide +kernel)) ggX6_content_X3_has
set_option maxRecDepth 20000 in
theorem ggX6_content_X3_at : GoodIn wsX6_content wsX3_at := goodIn_r _ [11, 12, 46, 47] (by decide +kernel) (by decide +kernel)
set_option maxRecDepth 20000 in
theorem gX6_content_X3_at : GoodIn wsX6_content (wsV RX6 153 RX3 yX3_at wsX3_at) := goodIn_app (goodIn_of _ (by decide +kernel)) ggX6_content_X3_at
set_option maxRecDepth 20000 in
theorem ggX6_content_X2_contents : GoodIn wsX6_content wsX2_contents := goodIn_r _ [17, 18, 48, 49, 50, 51] (by decide +kernel) (by decide +kernel)
set_option maxRecDepth 20000 in
theorem gX6_content_X2_contents : GoodIn wsX6_content (wsV RX6 160 RX2 yX2_contents wsX2_contents) := goodIn_app (goodIn_of _ (by decide +kernel)) ggX6_content_X2_contents
set_option maxRecDepth 20000 in
theorem ggX6_content_X0_sizeOf : GoodIn wsX6_content wsX0_sizeOf := goodIn_r _ [23, 24, 52, 53] (by decide +kernel) (by decide +kernel)
set_option maxRecDepth 20000 in
theorem gX6_content_X0_sizeOf : GoodIn wsX6_content (wsV RX6 164 RX0 yX0_sizeOf wsX0_sizeOf) := goodIn_app (goodIn_of _ (by decide +kernel)) ggX6_content_X0_sizeOf
set_option maxRecDepth 20000 in
theorem ggX6_content_X0_byteAt : GoodIn wsX6_content wsX0_byteAt := goodIn_r _ [28, 29, 30, 20, 21, 22, 23, 24, 31, 32, 33, 52, 53] (by decide +kernel) (by decide +kernel)
set_option maxRecDepth 20000 in
theorem gX6_content_X0_byteAt : GoodIn wsX6_content (wsV RX6 167 RX0 yX0_byteAt wsX0_byteAt) := goodIn_app (goodIn_of _ (by decide +kernel)) ggX6_content_X0_byteAt
theorem dX6_content_0 : decode cX6_content 0 = .ok (.aload_n 0, 1) := by decide +kernel
theorem dX6_content_1 : decode cX6_content 1 = .ok (.getfield 29, 3) := by decide +kernel
theorem dX6_content_4 : decode cX6_content 4 = .ok (.iload_n 1, 1) := by decide +kernel
theorem dX6_content_5 : decode cX6_content 5 = .ok (.invokevirtual 150, 3) := by decide +kernel
theorem dX6_content_8 : decode cX6_content 8 = .ok (.ifCond .ne 5, 3) := by decide +kernel
theorem dX6_content_11 : decode cX6_content 11 = .ok (.iconst (-1), 1) := by decide +kernel
theorem dX6_content_12 : decode cX6_content 12 = .ok (.ireturn, 1) := by decide +kernel
theorem dX6_content_13 : decode cX6_content 13 = .ok (.aload_n 0, 1) := by decide +kernel
theorem dX6_content_14 : decode cX6_content 14 = .ok (.getfield 29, 3) := by decide +kernel
theorem dX6_content_17 : decode cX6_content 17 = .ok (.iload_n 1, 1) := by decide +kernel
theorem dX6_content_18 : decode cX6_content 18 = .ok (.invokevirtual 153, 3) := by decide +kernel
theorem dX6_content_21 : decode cX6_content 21 = .ok (.invokevirtual 160, 3) := by decide +kernel
theorem dX6_content_24 : decode cX6_content 24 = .ok (.astore 4, 2) := by decide +kernel
theorem dX6_content_26 : decode cX6_content 26 = .ok (.iload_n 3, 1) := by decide +kernel
theorem dX6_content_27 : decode cX6_content 27 = .ok (.iconst (-1), 1) := by decide +kernel
theorem dX6_content_28 : decode cX6_content 28 = .ok (.if_icmp .ne 12, 3) := by decide +kernel
theorem dX6_content_31 : decode cX6_content 31 = .ok (.aload 4, 2) := by decide +kernel
theorem dX6_content_33 : decode cX6_content 33 = .ok (.iload_n 2, 1) := by decide +kernel
theorem dX6_content_34 : decode cX6_content 34 = .ok (.invokevirtual 164, 3) := by decide +kernel
theorem dX6_content_37 : decode cX6_content 37 = .ok (.goto 10, 3) := by decide +kernel
theorem dX6_content_40 : decode cX6_content 40 = .ok (.aload 4, 2) := by decide +kernel
theorem dX6_content_42 : decode cX6_content 42 = .ok (.iload_n 2, 1) := by decide +kernel
theorem dX6_content_43 : decode cX6_content 43 = .ok (.iload_n 3, 1) := by decide +kernel
theorem dX6_content_44 : decode cX6_content 44 = .ok (.invokevirtual 167, 3) := by decide +kernel
theorem dX6_content_47 : decode cX6_content 47 = .ok (.ireturn, 1) := by decide +kernel
set_option maxRecDepth 20000 in
theorem ggX6_check_X3_size : GoodIn wsX6_check wsX3_size := goodIn_r _ [7, 8, 71, 72] (by decide +kernel) (by decide +kernel)
set_option maxRecDepth 20000 in
theorem gX6_check_X3_size : GoodIn wsX6_check (wsV RX6 137 RX3 yX3_size wsX3_size) := goodIn_app (goodIn_of _ (by decide +kernel)) ggX6_check_X3_size
set_option maxRecDepth 20000 in
theorem ggX6_check_X3_at : GoodIn wsX6_check wsX3_at := goodIn_r _ [12, 13, 71, 72] (by decide +kernel) (by decide +kernel)
set_option maxRecDepth 20000 in
theorem gX6_check_X3_at : GoodIn wsX6_check (wsV RX6 153 RX3 yX3_at wsX3_at) := goodIn_app (goodIn_of _ (by decide +kernel)) ggX6_check_X3_at
set_option maxRecDepth 20000 in
theorem ggX6_check_X2_portOf : GoodIn wsX6_check wsX2_portOf := goodIn_r _ [18, 19, 73, 74, 75, 76] (by decide +kernel) (by decide +kernel)
set_option maxRecDepth 20000 in
theorem gX6_check_X2_portOf : GoodIn wsX6_check (wsV RX6 169 RX2 yX2_portOf wsX2_portOf) := goodIn_app (goodIn_of _ (by decide +kernel)) ggX6_check_X2_portOf
set_option maxRecDepth 20000 in
theorem ggX6_check_X6_isPort : GoodIn wsX6_check wsX6_isPort := goodIn_r _ [23] (by decide +kernel) (by decide +kernel)
set_option maxRecDepth 20000 in
theorem gX6_check_X6_isPort : GoodIn wsX6_check (va_wsS RX6 79 yX6_isPort wsX6_isPort) := goodIn_app (goodIn_of _ (by decide +kernel)) ggX6_check_X6_isPort
set_option maxRecDepth 20000 in
theorem ggX6_check_X4_isUp : GoodIn wsX6_check wsX4_isUp := goodIn_r _ [28, 29, 77, 78, 79, 80, 81, 82] (by decide +kernel) (by decide +kernel)
set_option maxRecDepth 20000 in
theorem gX6_check_X4_isUp : GoodIn wsX6_check (wsV RX6 83 RX4 yX4_isUp wsX4_isUp) := goodIn_app (goodIn_of _ (by decide +kernel)) ggX6_check_X4_isUp
set_option maxRecDepth 20000 in
theorem ggX6_check_X2_contents : GoodIn wsX6_check wsX2_contents := goodIn_r _ [33, 34, 73, 74, 75, 76] (by decide +kernel) (by decide +kernel)
set_option maxRecDepth 20000 in
theorem gX6_check_X2_contents : GoodIn wsX6_check (wsV RX6 160 RX2 yX2_contents wsX2_contents) := goodIn_app (goodIn_of _ (by decide +kernel)) ggX6_check_X2_contents
set_option maxRecDepth 20000 in
theorem ggX6_check_X3_find : GoodIn wsX6_check wsX3_find := goodIn_r _ [38, 8, 13, 39, 15, 16, 17, 18, 19, 40, 31, 32, 33, 34, 41, 42, 43, 44, 45, 46, 47, 48, 49, 50, 51, 52, 53, 54, 55, 56, 57, 58, 71, 72, 73, 74, 75, 76, 83, 84] (by decide +kernel) (by decide +kernel)
set_option maxRecDepth 20000 in
theorem gX6_check_X3_find : GoodIn wsX6_check (wsV RX6 170 RX3 yX3_find wsX3_find) := goodIn_app (goodIn_of _ (by decide +kernel)) ggX6_check_X3_find
theorem dX6_check_0 : decode cX6_check 0 = .ok (.iconst 0, 1) := by decide +kernel
theorem dX6_check_1 : decode cX6_check 1 = .ok (.istore_n 1, 1) := by decide +kernel
theorem dX6_check_2 : decode cX6_check 2 = .ok (.iload_n 1, 1) := by decide +kernel
theorem dX6_check_3 : decode cX6_check 3 = .ok (.aload_n 0, 1) := by decide +kernel
theorem dX6_check_4 : decode cX6_check 4 = .ok (.getfield 29, 3) := by decide +kernel
theorem dX6_check_7 : decode cX6_check 7 = .ok (.invokevirtual 137, 3) := by decide +kernel
theorem dX6_check_10 : decode cX6_check 10 = .ok (.if_icmp .ge 65, 3) := by decide +kernel
theorem dX6_check_13 : decode cX6_check 13 = .ok (.aload_n 0, 1) := by decide +kernel
theorem dX6_check_14 : decode cX6_check 14 = .ok (.getfield 29, 3) := by decide +kernel
theorem dX6_check_17 : decode cX6_check 17 = .ok (.iload_n 1, 1) := by decide +kernel
theorem dX6_check_18 : decode cX6_check 18 = .ok (.invokevirtual 153, 3) := by decide +kernel
theorem dX6_check_21 : decode cX6_check 21 = .ok (.invokevirtual 169, 3) := by decide +kernel
theorem dX6_check_24 : decode cX6_check 24 = .ok (.istore_n 2, 1) := by decide +kernel
theorem dX6_check_25 : decode cX6_check 25 = .ok (.iload_n 2, 1) := by decide +kernel
theorem dX6_check_26 : decode cX6_check 26 = .ok (.invokestatic 79, 3) := by decide +kernel
theorem dX6_check_29 : decode cX6_check 29 = .ok (.ifCond .eq 38, 3) := by decide +kernel
theorem dX6_check_32 : decode cX6_check 32 = .ok (.aload_n 0, 1) := by decide +kernel
theorem dX6_check_33 : decode cX6_check 33 = .ok (.getfield 22, 3) := by decide +kernel
theorem dX6_check_36 : decode cX6_check 36 = .ok (.iload_n 2, 1) := by decide +kernel
theorem dX6_check_37 : decode cX6_check 37 = .ok (.aaload, 1) := by decide +kernel
theorem dX6_check_38 : decode cX6_check 38 = .ok (.invokevirtual 83, 3) := by decide +kernel
theorem dX6_check_41 : decode cX6_check 41 = .ok (.ifCond .eq 26, 3) := by decide +kernel
theorem dX6_check_44 : decode cX6_check 44 = .ok (.aload_n 0, 1) := by decide +kernel
theorem dX6_check_45 : decode cX6_check 45 = .ok (.getfield 29, 3) := by decide +kernel
theorem dX6_check_48 : decode cX6_check 48 = .ok (.iload_n 2, 1) := by decide +kernel
theorem dX6_check_49 : decode cX6_check 49 = .ok (.aload_n 0, 1) := by decide +kernel
theorem dX6_check_50 : decode cX6_check 50 = .ok (.getfield 29, 3) := by decide +kernel
theorem dX6_check_53 : decode cX6_check 53 = .ok (.iload_n 1, 1) := by decide +kernel
theorem dX6_check_54 : decode cX6_check 54 = .ok (.invokevirtual 153, 3) := by decide +kernel
theorem dX6_check_57 : decode cX6_check 57 = .ok (.invokevirtual 160, 3) := by decide +kernel
theorem dX6_check_60 : decode cX6_check 60 = .ok (.invokevirtual 170, 3) := by decide +kernel
theorem dX6_check_63 : decode cX6_check 63 = .ok (.iload_n 1, 1) := by decide +kernel
theorem dX6_check_64 : decode cX6_check 64 = .ok (.if_icmp .eq 5, 3) := by decide +kernel
theorem dX6_check_67 : decode cX6_check 67 = .ok (.iconst 0, 1) := by decide +kernel
theorem dX6_check_68 : decode cX6_check 68 = .ok (.ireturn, 1) := by decide +kernel
theorem dX6_check_69 : decode cX6_check 69 = .ok (.iinc 1 1, 3) := by decide +kernel
theorem dX6_check_72 : decode cX6_check 72 = .ok (.goto (-70), 3) := by decide +kernel
theorem dX6_check_75 : decode cX6_check 75 = .ok (.iconst 1, 1) := by decide +kernel
theorem dX6_check_76 : decode cX6_check 76 = .ok (.ireturn, 1) := by decide +kernel
theorem dX6_isPort_0 : decode cX6_isPort 0 = .ok (.iload_n 0, 1) := by decide +kernel
theorem dX6_isPort_1 : decode cX6_isPort 1 = .ok (.ifCond .lt 12, 3) := by decide +kernel
theorem dX6_isPort_4 : decode cX6_isPort 4 = .ok (.iload_n 0, 1) := by decide +kernel
theorem dX6_isPort_5 : decode cX6_isPort 5 = .ok (.iconst 4, 1) := by decide +kernel
theorem dX6_isPort_6 : decode cX6_isPort 6 = .ok (.if_icmp .ge 7, 3) := by decide +kernel
theorem dX6_isPort_9 : decode cX6_isPort 9 = .ok (.iconst 1, 1) := by decide +kernel
theorem dX6_isPort_10 : decode cX6_isPort 10 = .ok (.goto 4, 3) := by decide +kernel
theorem dX6_isPort_13 : decode cX6_isPort 13 = .ok (.iconst 0, 1) := by decide +kernel
theorem dX6_isPort_14 : decode cX6_isPort 14 = .ok (.ireturn, 1) := by decide +kernel
set_option maxRecDepth 20000 in
theorem ggX6_isTellable_X6_isMore : GoodIn wsX6_isTellable wsX6_isMore := goodIn_r _ [4] (by decide +kernel) (by decide +kernel)
set_option maxRecDepth 20000 in
theorem gX6_isTellable_X6_isMore : GoodIn wsX6_isTellable (va_wsS RX6 174 yX6_isMore wsX6_isMore) := goodIn_app (goodIn_of _ (by decide +kernel)) ggX6_isTellable_X6_isMore
theorem dX6_isTellable_0 : decode cX6_isTellable 0 = .ok (.iload_n 0, 1) := by decide +kernel
theorem dX6_isTellable_1 : decode cX6_isTellable 1 = .ok (.iconst 1, 1) := by decide +kernel
theorem dX6_isTellable_2 : decode cX6_isTellable 2 = .ok (.if_icmp .eq 8, 3) := by decide +kernel
theorem dX6_isTellable_5 : decode cX6_isTellable 5 = .ok (.iload_n 0, 1) := by decide +kernel
theorem dX6_isTellable_6 : decode cX6_isTellable 6 = .ok (.iconst 2, 1) := by decide +kernel
theorem dX6_isTellable_7 : decode cX6_isTellable 7 = .ok (.if_icmp .ne 20, 3) := by decide +kernel
theorem dX6_isTellable_10 : decode cX6_isTellable 10 = .ok (.iload_n 1, 1) := by decide +kernel
theorem dX6_isTellable_11 : decode cX6_isTellable 11 = .ok (.iconst 2, 1) := by decide +kernel
theorem dX6_isTellable_12 : decode cX6_isTellable 12 = .ok (.if_icmp .lt 13, 3) := by decide +kernel
theorem dX6_isTellable_15 : decode cX6_isTellable 15 = .ok (.iload_n 1, 1) := by decide +kernel
theorem dX6_isTellable_16 : decode cX6_isTellable 16 = .ok (.bipush 59, 2) := by decide +kernel
theorem dX6_isTellable_18 : decode cX6_isTellable 18 = .ok (.if_icmp .gt 7, 3) := by decide +kernel
theorem dX6_isTellable_21 : decode cX6_isTellable 21 = .ok (.iconst 1, 1) := by decide +kernel
theorem dX6_isTellable_22 : decode cX6_isTellable 22 = .ok (.goto 4, 3) := by decide +kernel
theorem dX6_isTellable_25 : decode cX6_isTellable 25 = .ok (.iconst 0, 1) := by decide +kernel
theorem dX6_isTellable_26 : decode cX6_isTellable 26 = .ok (.ireturn, 1) := by decide +kernel
theorem dX6_isTellable_27 : decode cX6_isTellable 27 = .ok (.iload_n 0, 1) := by decide +kernel
theorem dX6_isTellable_28 : decode cX6_isTellable 28 = .ok (.invokestatic 174, 3) := by decide +kernel
theorem dX6_isTellable_31 : decode cX6_isTellable 31 = .ok (.ifCond .eq 13, 3) := by decide +kernel
theorem dX6_isTellable_34 : decode cX6_isTellable 34 = .ok (.iload_n 1, 1) := by decide +kernel
theorem dX6_isTellable_35 : decode cX6_isTellable 35 = .ok (.bipush 60, 2) := by decide +kernel
theorem dX6_isTellable_37 : decode cX6_isTellable 37 = .ok (.if_icmp .gt 7, 3) := by decide +kernel
theorem dX6_isTellable_40 : decode cX6_isTellable 40 = .ok (.iconst 1, 1) := by decide +kernel
theorem dX6_isTellable_41 : decode cX6_isTellable 41 = .ok (.goto 4, 3) := by decide +kernel
theorem dX6_isTellable_44 : decode cX6_isTellable 44 = .ok (.iconst 0, 1) := by decide +kernel
theorem dX6_isTellable_45 : decode cX6_isTellable 45 = .ok (.ireturn, 1) := by decide +kernel
theorem dX6_isMore_0 : decode cX6_isMore 0 = .ok (.iload_n 0, 1) := by decide +kernel
theorem dX6_isMore_1 : decode cX6_isMore 1 = .ok (.iconst 4, 1) := by decide +kernel
theorem dX6_isMore_2 : decode cX6_isMore 2 = .ok (.if_icmp .lt 13, 3) := by decide +kernel
theorem dX6_isMore_5 : decode cX6_isMore 5 = .ok (.iload_n 0, 1) := by decide +kernel
theorem dX6_isMore_6 : decode cX6_isMore 6 = .ok (.bipush 8, 2) := by decide +kernel
theorem dX6_isMore_8 : decode cX6_isMore 8 = .ok (.if_icmp .gt 7, 3) := by decide +kernel
theorem dX6_isMore_11 : decode cX6_isMore 11 = .ok (.iconst 1, 1) := by decide +kernel
theorem dX6_isMore_12 : decode cX6_isMore 12 = .ok (.goto 4, 3) := by decide +kernel
theorem dX6_isMore_15 : decode cX6_isMore 15 = .ok (.iconst 0, 1) := by decide +kernel
theorem dX6_isMore_16 : decode cX6_isMore 16 = .ok (.ireturn, 1) := by decide +kernel
set_option maxRecDepth 20000 in
theorem ggX6_tellNothing_X0_has : GoodIn wsX6_tellNothing wsX0_has := goodIn_r _ [6, 7, 8, 9, 5, 10, 11, 42, 43] (by decide +kernel) (by decide +kernel)
set_option maxRecDepth 20000 in
theorem gX6_tellNothing_X0_has : GoodIn wsX6_tellNothing (wsV RX6 177 RX0 yX0_has wsX0_has) := goodIn_app (goodIn_of _ (by decide +kernel)) ggX6_tellNothing_X0_has
set_option maxRecDepth 20000 in
theorem ggX6_tellNothing_X0_drop : GoodIn wsX6_tellNothing wsX0_drop := goodIn_r _ [15, 11, 16, 3, 4, 5, 6, 7, 8, 9, 10, 42, 43] (by decide +kernel) (by decide +kernel)
set_option maxRecDepth 20000 in
theorem gX6_tellNothing_X0_drop : GoodIn wsX6_tellNothing (wsV RX6 178 RX0 yX0_drop wsX0_drop) := goodIn_app (goodIn_of _ (by decide +kernel)) ggX6_tellNothing_X0_drop
set_option maxRecDepth 20000 in
theorem ggX6_tellNothing_X6_hurryAll : GoodIn wsX6_tellNothing wsX6_hurryAll := goodIn_r _ [21, 22, 23, 24, 25, 26, 27, 28, 29, 30, 31, 32, 33, 34, 35, 36, 37, 38, 39, 40, 41, 44, 45, 46, 47, 48, 49] (by decide +kernel) (by decide +kernel)
set_option maxRecDepth 20000 in
theorem gX6_tellNothing_X6_hurryAll : GoodIn wsX6_tellNothing (wsV RX6 181 RX6 yX6_hurryAll wsX6_hurryAll) := goodIn_app (goodIn_of _ (by decide +kernel)) ggX6_tellNothing_X6_hurryAll
theorem dX6_tellNothing_0 : decode cX6_tellNothing 0 = .ok (.aload_n 0, 1) := by decide +kernel
theorem dX6_tellNothing_1 : decode cX6_tellNothing 1 = .ok (.getfield 16, 3) := by decide +kernel
theorem dX6_tellNothing_4 : decode cX6_tellNothing 4 = .ok (.iload_n 1, 1) := by decide +kernel
theorem dX6_tellNothing_5 : decode cX6_tellNothing 5 = .ok (.invokevirtual 177, 3) := by decide +kernel
theorem dX6_tellNothing_8 : decode cX6_tellNothing 8 = .ok (.ifCond .eq 15, 3) := by decide +kernel
theorem dX6_tellNothing_11 : decode cX6_tellNothing 11 = .ok (.aload_n 0, 1) := by decide +kernel
theorem dX6_tellNothing_12 : decode cX6_tellNothing 12 = .ok (.getfield 16, 3) := by decide +kernel
theorem dX6_tellNothing_15 : decode cX6_tellNothing 15 = .ok (.iload_n 1, 1) := by decide +kernel
theorem dX6_tellNothing_16 : decode cX6_tellNothing 16 = .ok (.invokevirtual 178, 3) := by decide +kernel
theorem dX6_tellNothing_19 : decode cX6_tellNothing 19 = .ok (.aload_n 0, 1) := by decide +kernel
theorem dX6_tellNothing_20 : decode cX6_tellNothing 20 = .ok (.invokevirtual 181, 3) := by decide +kernel
theorem dX6_tellNothing_23 : decode cX6_tellNothing 23 = .ok (.return_, 1) := by decide +kernel
set_option maxRecDepth 20000 in
theorem ggX6_tellTyped_X0_isSame : GoodIn wsX6_tellTyped wsX0_isSame := goodIn_r _ [8, 9, 10, 11, 12, 7, 13, 14, 15, 16, 17, 56, 57] (by decide +kernel) (by decide +kernel)
set_option maxRecDepth 20000 in
theorem gX6_tellTyped_X0_isSame : GoodIn wsX6_tellTyped (wsV RX6 184 RX0 yX0_isSame wsX0_isSame) := goodIn_app (goodIn_of _ (by decide +kernel)) ggX6_tellTyped_X0_isSame
set_option maxRecDepth 20000 in
theorem ggX6_tellTyped_X0_keep : GoodIn wsX6_tellTyped wsX0_keep := goodIn_r _ [21, 9, 22, 23, 24, 25, 14, 26, 27, 7, 28, 29, 30, 31, 15, 16, 17, 56, 57] (by decide +kernel) (by decide +kernel)
set_option maxRecDepth 20000 in
theorem gX6_tellTyped_X0_keep : GoodIn wsX6_tellTyped (wsV RX6 61 RX0 yX0_keep wsX0_keep) := goodIn_app (goodIn_of _ (by decide +kernel)) ggX6_tellTyped_X0_keep
set_option maxRecDepth 20000 in
theorem ggX6_tellTyped_X6_hurryAll : GoodIn wsX6_tellTyped wsX6_hurryAll := goodIn_r _ [35, 36, 37, 38, 39, 40, 41, 42, 43, 44, 45, 46, 47, 48, 49, 50, 51, 52, 53, 54, 55, 58, 59, 60, 61, 62, 63] (by decide +kernel) (by decide +kernel)
set_option maxRecDepth 20000 in
theorem gX6_tellTyped_X6_hurryAll : GoodIn wsX6_tellTyped (wsV RX6 181 RX6 yX6_hurryAll wsX6_hurryAll) := goodIn_app (goodIn_of _ (by decide +kernel)) ggX6_tellTyped_X6_hurryAll
theorem dX6_tellTyped_0 : decode cX6_tellTyped 0 = .ok (.aload_n 0, 1) := by decide +kernel
theorem dX6_tellTyped_1 : decode cX6_tellTyped 1 = .ok (.getfield 16, 3) := by decide +kernel
theorem dX6_tellTyped_4 : decode cX6_tellTyped 4 = .ok (.iload_n 1, 1) := by decide +kernel
theorem dX6_tellTyped_5 : decode cX6_tellTyped 5 = .ok (.aload_n 0, 1) := by decide +kernel
theorem dX6_tellTyped_6 : decode cX6_tellTyped 6 = .ok (.getfield 9, 3) := by decide +kernel
theorem dX6_tellTyped_9 : decode cX6_tellTyped 9 = .ok (.iconst 0, 1) := by decide +kernel
theorem dX6_tellTyped_10 : decode cX6_tellTyped 10 = .ok (.aload_n 0, 1) := by decide +kernel
theorem dX6_tellTyped_11 : decode cX6_tellTyped 11 = .ok (.getfield 65, 3) := by decide +kernel
theorem dX6_tellTyped_14 : decode cX6_tellTyped 14 = .ok (.invokevirtual 184, 3) := by decide +kernel
theorem dX6_tellTyped_17 : decode cX6_tellTyped 17 = .ok (.ifCond .ne 24, 3) := by decide +kernel
theorem dX6_tellTyped_20 : decode cX6_tellTyped 20 = .ok (.aload_n 0, 1) := by decide +kernel
theorem dX6_tellTyped_21 : decode cX6_tellTyped 21 = .ok (.getfield 16, 3) := by decide +kernel
theorem dX6_tellTyped_24 : decode cX6_tellTyped 24 = .ok (.iload_n 1, 1) := by decide +kernel
theorem dX6_tellTyped_25 : decode cX6_tellTyped 25 = .ok (.aload_n 0, 1) := by decide +kernel
theorem dX6_tellTyped_26 : decode cX6_tellTyped 26 = .ok (.getfield 9, 3) := by decide +kernel
theorem dX6_tellTyped_29 : decode cX6_tellTyped 29 = .ok (.iconst 0, 1) := by decide +kernel
theorem dX6_tellTyped_30 : decode cX6_tellTyped 30 = .ok (.aload_n 0, 1) := by decide +kernel
theorem dX6_tellTyped_31 : decode cX6_tellTyped 31 = .ok (.getfield 65, 3) := by decide +kernel
theorem dX6_tellTyped_34 : decode cX6_tellTyped 34 = .ok (.invokevirtual 61, 3) := by decide +kernel
theorem dX6_tellTyped_37 : decode cX6_tellTyped 37 = .ok (.aload_n 0, 1) := by decide +kernel
theorem dX6_tellTyped_38 : decode cX6_tellTyped 38 = .ok (.invokevirtual 181, 3) := by decide +kernel
theorem dX6_tellTyped_41 : decode cX6_tellTyped 41 = .ok (.return_, 1) := by decide +kernel
set_option maxRecDepth 20000 in
theorem ggX6_hurryAll_X4_hurry : GoodIn wsX6_hurryAll wsX4_hurry := goodIn_r _ [6, 7, 8, 21, 22, 23, 24, 25, 26] (by decide +kernel) (by decide +kernel)
set_option maxRecDepth 20000 in
theorem gX6_hurryAll_X4_hurry : GoodIn wsX6_hurryAll (wsV RX6 188 RX4 yX4_hurry wsX4_hurry) := goodIn_app (goodIn_of _ (by decide +kernel)) ggX6_hurryAll_X4_hurry
theorem dX6_hurryAll_0 : decode cX6_hurryAll 0 = .ok (.iconst 0, 1) := by decide +kernel
theorem dX6_hurryAll_1 : decode cX6_hurryAll 1 = .ok (.istore_n 1, 1) := by decide +kernel
theorem dX6_hurryAll_2 : decode cX6_hurryAll 2 = .ok (.iload_n 1, 1) := by decide +kernel
theorem dX6_hurryAll_3 : decode cX6_hurryAll 3 = .ok (.iconst 4, 1) := by decide +kernel
theorem dX6_hurryAll_4 : decode cX6_hurryAll 4 = .ok (.if_icmp .ge 18, 3) := by decide +kernel
theorem dX6_hurryAll_7 : decode cX6_hurryAll 7 = .ok (.aload_n 0, 1) := by decide +kernel
theorem dX6_hurryAll_8 : decode cX6_hurryAll 8 = .ok (.getfield 22, 3) := by decide +kernel
theorem dX6_hurryAll_11 : decode cX6_hurryAll 11 = .ok (.iload_n 1, 1) := by decide +kernel
theorem dX6_hurryAll_12 : decode cX6_hurryAll 12 = .ok (.aaload, 1) := by decide +kernel
theorem dX6_hurryAll_13 : decode cX6_hurryAll 13 = .ok (.invokevirtual 188, 3) := by decide +kernel
theorem dX6_hurryAll_16 : decode cX6_hurryAll 16 = .ok (.iinc 1 1, 3) := by decide +kernel
theorem dX6_hurryAll_19 : decode cX6_hurryAll 19 = .ok (.goto (-17), 3) := by decide +kernel
theorem dX6_hurryAll_22 : decode cX6_hurryAll 22 = .ok (.return_, 1) := by decide +kernel
set_option maxRecDepth 20000 in
theorem ggX6_learn_X1_contents : GoodIn wsX6_learn wsX1_contents := goodIn_r _ [9, 10, 105, 106] (by decide +kernel) (by decide +kernel)
set_option maxRecDepth 20000 in
theorem gX6_learn_X1_contents : GoodIn wsX6_learn (wsV RX6 191 RX1 yX1_contents wsX1_contents) := goodIn_app (goodIn_of _ (by decide +kernel)) ggX6_learn_X1_contents
set_option maxRecDepth 20000 in
theorem ggX6_learn_X3_find : GoodIn wsX6_learn wsX3_find := goodIn_r _ [15, 16, 17, 18, 19, 20, 21, 22, 23, 24, 25, 26, 27, 28, 29, 30, 31, 32, 33, 34, 35, 36, 37, 38, 39, 40, 41, 42, 43, 44, 45, 46, 107, 108, 109, 110, 111, 112, 113, 114] (by decide +kernel) (by decide +kernel)
set_option maxRecDepth 20000 in
theorem gX6_learn_X3_find : GoodIn wsX6_learn (wsV RX6 170 RX3 yX3_find wsX3_find) := goodIn_app (goodIn_of _ (by decide +kernel)) ggX6_learn_X3_find
set_option maxRecDepth 20000 in
theorem ggX6_learn_X1_held : GoodIn wsX6_learn wsX1_held := goodIn_r _ [50, 51, 105, 106] (by decide +kernel) (by decide +kernel)
set_option maxRecDepth 20000 in
theorem gX6_learn_X1_held : GoodIn wsX6_learn (wsV RX6 192 RX1 yX1_held wsX1_held) := goodIn_app (goodIn_of _ (by decide +kernel)) ggX6_learn_X1_held
set_option maxRecDepth 20000 in
theorem ggX6_learn_X3_forget : GoodIn wsX6_learn wsX3_forget := goodIn_r _ [55, 17, 16, 56, 57, 58, 14, 59, 107, 108] (by decide +kernel) (by decide +kernel)
set_option maxRecDepth 20000 in
theorem gX6_learn_X3_forget : GoodIn wsX6_learn (wsV RX6 195 RX3 yX3_forget wsX3_forget) := goodIn_app (goodIn_of _ (by decide +kernel)) ggX6_learn_X3_forget
set_option maxRecDepth 20000 in
theorem ggX6_learn_X3_add : GoodIn wsX6_learn wsX3_add := goodIn_r _ [63, 16, 17, 64, 65, 66, 21, 67, 23, 68, 107, 108, 109, 110, 111, 112] (by decide +kernel) (by decide +kernel)
set_option maxRecDepth 20000 in
theorem gX6_learn_X3_add : GoodIn wsX6_learn (wsV RX6 198 RX3 yX3_add wsX3_add) := goodIn_app (goodIn_of _ (by decide +kernel)) ggX6_learn_X3_add
set_option maxRecDepth 20000 in
theorem ggX6_learn_X4_greet : GoodIn wsX6_learn wsX4_greet := goodIn_r _ [73, 74, 75, 76, 77, 78, 79, 115, 116, 117, 118, 119, 120] (by decide +kernel) (by decide +kernel)
set_option maxRecDepth 20000 in
theorem gX6_learn_X4_greet : GoodIn wsX6_learn (wsV RX6 201 RX4 yX4_greet wsX4_greet) := goodIn_app (goodIn_of _ (by decide +kernel)) ggX6_learn_X4_greet
set_option maxRecDepth 20000 in
theorem ggX6_learn_X3_at : GoodIn wsX6_learn wsX3_at := goodIn_r _ [83, 17, 107, 108] (by decide +kernel) (by decide +kernel)
set_option maxRecDepth 20000 in
theorem gX6_learn_X3_at : GoodIn wsX6_learn (wsV RX6 153 RX3 yX3_at wsX3_at) := goodIn_app (goodIn_of _ (by decide +kernel)) ggX6_learn_X3_at
set_option maxRecDepth 20000 in
theorem ggX6_learn_X2_renew : GoodIn wsX6_learn wsX2_renew := goodIn_r _ [87, 28, 88, 68, 109, 110, 111, 112] (by decide +kernel) (by decide +kernel)
set_option maxRecDepth 20000 in
theorem gX6_learn_X2_renew : GoodIn wsX6_learn (wsV RX6 204 RX2 yX2_renew wsX2_renew) := goodIn_app (goodIn_of _ (by decide +kernel)) ggX6_learn_X2_renew
set_option maxRecDepth 20000 in
theorem ggX6_learn_X1_useNext : GoodIn wsX6_learn wsX1_useNext := goodIn_r _ [92, 10, 105, 106] (by decide +kernel) (by decide +kernel)
set_option maxRecDepth 20000 in
theorem gX6_learn_X1_useNext : GoodIn wsX6_learn (wsV RX6 208 RX1 yX1_useNext wsX1_useNext) := goodIn_app (goodIn_of _ (by decide +kernel)) ggX6_learn_X1_useNext
theorem dX6_learn_0 : decode cX6_learn 0 = .ok (.aload_n 0, 1) := by decide +kernel
theorem dX6_learn_1 : decode cX6_learn 1 = .ok (.getfield 29, 3) := by decide +kernel
theorem dX6_learn_4 : decode cX6_learn 4 = .ok (.iload_n 1, 1) := by decide +kernel
theorem dX6_learn_5 : decode cX6_learn 5 = .ok (.aload_n 0, 1) := by decide +kernel
theorem dX6_learn_6 : decode cX6_learn 6 = .ok (.getfield 36, 3) := by decide +kernel
theorem dX6_learn_9 : decode cX6_learn 9 = .ok (.invokevirtual 191, 3) := by decide +kernel
theorem dX6_learn_12 : decode cX6_learn 12 = .ok (.invokevirtual 170, 3) := by decide +kernel
theorem dX6_learn_15 : decode cX6_learn 15 = .ok (.istore_n 2, 1) := by decide +kernel
theorem dX6_learn_16 : decode cX6_learn 16 = .ok (.aload_n 0, 1) := by decide +kernel
theorem dX6_learn_17 : decode cX6_learn 17 = .ok (.getfield 36, 3) := by decide +kernel
theorem dX6_learn_20 : decode cX6_learn 20 = .ok (.invokevirtual 192, 3) := by decide +kernel
theorem dX6_learn_23 : decode cX6_learn 23 = .ok (.ifCond .ne 13, 3) := by decide +kernel
theorem dX6_learn_26 : decode cX6_learn 26 = .ok (.aload_n 0, 1) := by decide +kernel
theorem dX6_learn_27 : decode cX6_learn 27 = .ok (.getfield 29, 3) := by decide +kernel
theorem dX6_learn_30 : decode cX6_learn 30 = .ok (.iload_n 2, 1) := by decide +kernel
theorem dX6_learn_31 : decode cX6_learn 31 = .ok (.invokevirtual 195, 3) := by decide +kernel
theorem dX6_learn_34 : decode cX6_learn 34 = .ok (.iconst 0, 1) := by decide +kernel
theorem dX6_learn_35 : decode cX6_learn 35 = .ok (.ireturn, 1) := by decide +kernel
theorem dX6_learn_36 : decode cX6_learn 36 = .ok (.iload_n 2, 1) := by decide +kernel
theorem dX6_learn_37 : decode cX6_learn 37 = .ok (.iconst (-1), 1) := by decide +kernel
theorem dX6_learn_38 : decode cX6_learn 38 = .ok (.if_icmp .ne 32, 3) := by decide +kernel
theorem dX6_learn_41 : decode cX6_learn 41 = .ok (.aload_n 0, 1) := by decide +kernel
theorem dX6_learn_42 : decode cX6_learn 42 = .ok (.getfield 29, 3) := by decide +kernel
theorem dX6_learn_45 : decode cX6_learn 45 = .ok (.iload_n 1, 1) := by decide +kernel
theorem dX6_learn_46 : decode cX6_learn 46 = .ok (.invokevirtual 198, 3) := by decide +kernel
theorem dX6_learn_49 : decode cX6_learn 49 = .ok (.istore_n 2, 1) := by decide +kernel
theorem dX6_learn_50 : decode cX6_learn 50 = .ok (.iload_n 2, 1) := by decide +kernel
theorem dX6_learn_51 : decode cX6_learn 51 = .ok (.iconst (-1), 1) := by decide +kernel
theorem dX6_learn_52 : decode cX6_learn 52 = .ok (.if_icmp .ne 5, 3) := by decide +kernel
theorem dX6_learn_55 : decode cX6_learn 55 = .ok (.iconst 5, 1) := by decide +kernel
theorem dX6_learn_56 : decode cX6_learn 56 = .ok (.ireturn, 1) := by decide +kernel
theorem dX6_learn_57 : decode cX6_learn 57 = .ok (.aload_n 0, 1) := by decide +kernel
theorem dX6_learn_58 : decode cX6_learn 58 = .ok (.getfield 22, 3) := by decide +kernel
theorem dX6_learn_61 : decode cX6_learn 61 = .ok (.iload_n 1, 1) := by decide +kernel
theorem dX6_learn_62 : decode cX6_learn 62 = .ok (.aaload, 1) := by decide +kernel
theorem dX6_learn_63 : decode cX6_learn 63 = .ok (.aload_n 0, 1) := by decide +kernel
theorem dX6_learn_64 : decode cX6_learn 64 = .ok (.getfield 54, 3) := by decide +kernel
theorem dX6_learn_67 : decode cX6_learn 67 = .ok (.invokevirtual 201, 3) := by decide +kernel
theorem dX6_learn_70 : decode cX6_learn 70 = .ok (.aload_n 0, 1) := by decide +kernel
theorem dX6_learn_71 : decode cX6_learn 71 = .ok (.getfield 29, 3) := by decide +kernel
theorem dX6_learn_74 : decode cX6_learn 74 = .ok (.iload_n 2, 1) := by decide +kernel
theorem dX6_learn_75 : decode cX6_learn 75 = .ok (.invokevirtual 153, 3) := by decide +kernel
theorem dX6_learn_78 : decode cX6_learn 78 = .ok (.aload_n 0, 1) := by decide +kernel
theorem dX6_learn_79 : decode cX6_learn 79 = .ok (.getfield 36, 3) := by decide +kernel
theorem dX6_learn_82 : decode cX6_learn 82 = .ok (.invokevirtual 191, 3) := by decide +kernel
theorem dX6_learn_85 : decode cX6_learn 85 = .ok (.aload_n 0, 1) := by decide +kernel
theorem dX6_learn_86 : decode cX6_learn 86 = .ok (.getfield 36, 3) := by decide +kernel
theorem dX6_learn_89 : decode cX6_learn 89 = .ok (.invokevirtual 192, 3) := by decide +kernel
theorem dX6_learn_92 : decode cX6_learn 92 = .ok (.invokevirtual 204, 3) := by decide +kernel
theorem dX6_learn_95 : decode cX6_learn 95 = .ok (.astore_n 3, 1) := by decide +kernel
theorem dX6_learn_96 : decode cX6_learn 96 = .ok (.aload_n 0, 1) := by decide +kernel
theorem dX6_learn_97 : decode cX6_learn 97 = .ok (.getfield 36, 3) := by decide +kernel
theorem dX6_learn_100 : decode cX6_learn 100 = .ok (.aload_n 3, 1) := by decide +kernel
theorem dX6_learn_101 : decode cX6_learn 101 = .ok (.invokevirtual 208, 3) := by decide +kernel
theorem dX6_learn_104 : decode cX6_learn 104 = .ok (.iconst 0, 1) := by decide +kernel
theorem dX6_learn_105 : decode cX6_learn 105 = .ok (.ireturn, 1) := by decide +kernel
end
section
theorem dX7_init_0 : decode cX7_init 0 = .ok (.aload_n 0, 1) := by decide +kernel
theorem dX7_init_1 : decode cX7_init 1 = .ok (.invokespecial 1, 3) := by decide +kernel
theorem dX7_init_4 : decode cX7_init 4 = .ok (.aload_n 0, 1) := by decide +kernel
theorem dX7_init_5 : decode cX7_init 5 = .ok (.sipush 700, 3) := by decide +kernel
theorem dX7_init_8 : decode cX7_init 8 = .ok (.newarray .byte, 2) := by decide +kernel
theorem dX7_init_10 : decode cX7_init 10 = .ok (.putfield 7, 3) := by decide +kernel
theorem dX7_init_13 : decode cX7_init 13 = .ok (.aload_n 0, 1) := by decide +kernel
theorem dX7_init_14 : decode cX7_init 14 = .ok (.sipush 540, 3) := by decide +kernel
theorem dX7_init_17 : decode cX7_init 17 = .ok (.newarray .byte, 2) := by decide +kernel
theorem dX7_init_19 : decode cX7_init 19 = .ok (.putfield 13, 3) := by decide +kernel
theorem dX7_init_22 : decode cX7_init 22 = .ok (.aload_n 0, 1) := by decide +kernel
theorem dX7_init_23 : decode cX7_init 23 = .ok (.bipush 9, 2) := by decide +kernel
theorem dX7_init_25 : decode cX7_init 25 = .ok (.newarray .int, 2) := by decide +kernel
theorem dX7_init_27 : decode cX7_init 27 = .ok (.putfield 16, 3) := by decide +kernel
theorem dX7_init_30 : decode cX7_init 30 = .ok (.aload_n 0, 1) := by decide +kernel
theorem dX7_init_31 : decode cX7_init 31 = .ok (.bipush 30, 2) := by decide +kernel
theorem dX7_init_33 : decode cX7_init 33 = .ok (.putfield 20, 3) := by decide +kernel
theorem dX7_init_36 : decode cX7_init 36 = .ok (.aload_n 0, 1) := by decide +kernel
theorem dX7_init_37 : decode cX7_init 37 = .ok (.iconst 4, 1) := by decide +kernel
theorem dX7_init_38 : decode cX7_init 38 = .ok (.putfield 24, 3) := by decide +kernel
theorem dX7_init_41 : decode cX7_init 41 = .ok (.aload_n 0, 1) := by decide +kernel
theorem dX7_init_42 : decode cX7_init 42 = .ok (.iconst 4, 1) := by decide +kernel
theorem dX7_init_43 : decode cX7_init 43 = .ok (.putfield 27, 3) := by decide +kernel
theorem dX7_init_46 : decode cX7_init 46 = .ok (.aload_n 0, 1) := by decide +kernel
theorem dX7_init_47 : decode cX7_init 47 = .ok (.iconst 4, 1) := by decide +kernel
theorem dX7_init_48 : decode cX7_init 48 = .ok (.newarray .boolean, 2) := by decide +kernel
theorem dX7_init_50 : decode cX7_init 50 = .ok (.putfield 30, 3) := by decide +kernel
theorem dX7_init_53 : decode cX7_init 53 = .ok (.aload_n 0, 1) := by decide +kernel
theorem dX7_init_54 : decode cX7_init 54 = .ok (.iconst 4, 1) := by decide +kernel
theorem dX7_init_55 : decode cX7_init 55 = .ok (.newarray .int, 2) := by decide +kernel
theorem dX7_init_57 : decode cX7_init 57 = .ok (.putfield 34, 3) := by decide +kernel
theorem dX7_init_60 : decode cX7_init 60 = .ok (.aload_n 0, 1) := by decide +kernel
theorem dX7_init_61 : decode cX7_init 61 = .ok (.iconst 4, 1) := by decide +kernel
theorem dX7_init_62 : decode cX7_init 62 = .ok (.newarray .int, 2) := by decide +kernel
theorem dX7_init_64 : decode cX7_init 64 = .ok (.putfield 37, 3) := by decide +kernel
theorem dX7_init_67 : decode cX7_init 67 = .ok (.aload_n 0, 1) := by decide +kernel
theorem dX7_init_68 : decode cX7_init 68 = .ok (.iconst 4, 1) := by decide +kernel
theorem dX7_init_69 : decode cX7_init 69 = .ok (.newarray .int, 2) := by decide +kernel
theorem dX7_init_71 : decode cX7_init 71 = .ok (.putfield 40, 3) := by decide +kernel
theorem dX7_init_74 : decode cX7_init 74 = .ok (.aload_n 0, 1) := by decide +kernel
theorem dX7_init_75 : decode cX7_init 75 = .ok (.iconst 4, 1) := by decide +kernel
theorem dX7_init_76 : decode cX7_init 76 = .ok (.newarray .int, 2) := by decide +kernel
theorem dX7_init_78 : decode cX7_init 78 = .ok (.putfield 43, 3) := by decide +kernel
theorem dX7_init_81 : decode cX7_init 81 = .ok (.aload_n 0, 1) := by decide +kernel
theorem dX7_init_82 : decode cX7_init 82 = .ok (.iconst 4, 1) := by decide +kernel
theorem dX7_init_83 : decode cX7_init 83 = .ok (.newarray .int, 2) := by decide +kernel
theorem dX7_init_85 : decode cX7_init 85 = .ok (.putfield 46, 3) := by decide +kernel
theorem dX7_init_88 : decode cX7_init 88 = .ok (.aload_n 0, 1) := by decide +kernel
theorem dX7_init_89 : decode cX7_init 89 = .ok (.bipush 13, 2) := by decide +kernel
theorem dX7_init_91 : decode cX7_init 91 = .ok (.newarray .int, 2) := by decide +kernel
theorem dX7_init_93 : decode cX7_init 93 = .ok (.putfield 49, 3) := by decide +kernel
theorem dX7_init_96 : decode cX7_init 96 = .ok (.aload_n 0, 1) := by decide +kernel
theorem dX7_init_97 : decode cX7_init 97 = .ok (.bipush 13, 2) := by decide +kernel
theorem dX7_init_99 : decode cX7_init 99 = .ok (.newarray .int, 2) := by decide +kernel
theorem dX7_init_101 : decode cX7_init 101 = .ok (.putfield 52, 3) := by decide +kernel
theorem dX7_init_104 : decode cX7_init 104 = .ok (.aload_n 0, 1) := by decide +kernel
theorem dX7_init_105 : decode cX7_init 105 = .ok (.bipush 13, 2) := by decide +kernel
theorem dX7_init_107 : decode cX7_init 107 = .ok (.newarray .int, 2) := by decide +kernel
theorem dX7_init_109 : decode cX7_init 109 = .ok (.putfield 55, 3) := by decide +kernel
theorem dX7_init_112 : decode cX7_init 112 = .ok (.aload_n 0, 1) := by decide +kernel
theorem dX7_init_113 : decode cX7_init 113 = .ok (.sipush 7020, 3) := by decide +kernel
theorem dX7_init_116 : decode cX7_init 116 = .ok (.newarray .byte, 2) := by decide +kernel
theorem dX7_init_118 : decode cX7_init 118 = .ok (.putfield 58, 3) := by decide +kernel
theorem dX7_init_121 : decode cX7_init 121 = .ok (.aload_n 0, 1) := by decide +kernel
theorem dX7_init_122 : decode cX7_init 122 = .ok (.bipush 117, 2) := by decide +kernel
theorem dX7_init_124 : decode cX7_init 124 = .ok (.newarray .int, 2) := by decide +kernel
theorem dX7_init_126 : decode cX7_init 126 = .ok (.putfield 61, 3) := by decide +kernel
theorem dX7_init_129 : decode cX7_init 129 = .ok (.aload_n 0, 1) := by decide +kernel
theorem dX7_init_130 : decode cX7_init 130 = .ok (.sipush 700, 3) := by decide +kernel
theorem dX7_init_133 : decode cX7_init 133 = .ok (.newarray .byte, 2) := by decide +kernel
theorem dX7_init_135 : decode cX7_init 135 = .ok (.putfield 64, 3) := by decide +kernel
theorem dX7_init_138 : decode cX7_init 138 = .ok (.aload_n 0, 1) := by decide +kernel
theorem dX7_init_139 : decode cX7_init 139 = .ok (.iconst (-1), 1) := by decide +kernel
theorem dX7_init_140 : decode cX7_init 140 = .ok (.putfield 67, 3) := by decide +kernel
theorem dX7_init_143 : decode cX7_init 143 = .ok (.iconst 0, 1) := by decide +kernel
theorem dX7_init_144 : decode cX7_init 144 = .ok (.istore_n 1, 1) := by decide +kernel
theorem dX7_init_145 : decode cX7_init 145 = .ok (.iload_n 1, 1) := by decide +kernel
theorem dX7_init_146 : decode cX7_init 146 = .ok (.bipush 9, 2) := by decide +kernel
theorem dX7_init_148 : decode cX7_init 148 = .ok (.if_icmp .ge 30, 3) := by decide +kernel
theorem dX7_init_151 : decode cX7_init 151 = .ok (.aload_n 0, 1) := by decide +kernel
theorem dX7_init_152 : decode cX7_init 152 = .ok (.getfield 16, 3) := by decide +kernel
theorem dX7_init_155 : decode cX7_init 155 = .ok (.iload_n 1, 1) := by decide +kernel
theorem dX7_init_156 : decode cX7_init 156 = .ok (.iload_n 1, 1) := by decide +kernel
theorem dX7_init_157 : decode cX7_init 157 = .ok (.iconst 1, 1) := by decide +kernel
theorem dX7_init_158 : decode cX7_init 158 = .ok (.if_icmp .eq 8, 3) := by decide +kernel
theorem dX7_init_161 : decode cX7_init 161 = .ok (.iload_n 1, 1) := by decide +kernel
theorem dX7_init_162 : decode cX7_init 162 = .ok (.iconst 2, 1) := by decide +kernel
theorem dX7_init_163 : decode cX7_init 163 = .ok (.if_icmp .ne 7, 3) := by decide +kernel
theorem dX7_init_166 : decode cX7_init 166 = .ok (.iconst 2, 1) := by decide +kernel
theorem dX7_init_167 : decode cX7_init 167 = .ok (.goto 4, 3) := by decide +kernel
theorem dX7_init_170 : decode cX7_init 170 = .ok (.iconst (-1), 1) := by decide +kernel
theorem dX7_init_171 : decode cX7_init 171 = .ok (.iastore, 1) := by decide +kernel
theorem dX7_init_172 : decode cX7_init 172 = .ok (.iinc 1 1, 3) := by decide +kernel
theorem dX7_init_175 : decode cX7_init 175 = .ok (.goto (-30), 3) := by decide +kernel
theorem dX7_init_178 : decode cX7_init 178 = .ok (.return_, 1) := by decide +kernel
theorem dX7_isMore_0 : decode cX7_isMore 0 = .ok (.iload_n 0, 1) := by decide +kernel
theorem dX7_isMore_1 : decode cX7_isMore 1 = .ok (.iconst 4, 1) := by decide +kernel
theorem dX7_isMore_2 : decode cX7_isMore 2 = .ok (.if_icmp .lt 13, 3) := by decide +kernel
theorem dX7_isMore_5 : decode cX7_isMore 5 = .ok (.iload_n 0, 1) := by decide +kernel
theorem dX7_isMore_6 : decode cX7_isMore 6 = .ok (.bipush 8, 2) := by decide +kernel
theorem dX7_isMore_8 : decode cX7_isMore 8 = .ok (.if_icmp .gt 7, 3) := by decide +kernel
theorem dX7_isMore_11 : decode cX7_isMore 11 = .ok (.iconst 1, 1) := by decide +kernel
theorem dX7_isMore_12 : decode cX7_isMore 12 = .ok (.goto 4, 3) := by decide +kernel
theorem dX7_isMore_15 : decode cX7_isMore 15 = .ok (.iconst 0, 1) := by decide +kernel
theorem dX7_isMore_16 : decode cX7_isMore 16 = .ok (.ireturn, 1) := by decide +kernel
theorem dX7_type_0 : decode cX7_type 0 = .ok (.iload_n 3, 1) := by decide +kernel
theorem dX7_type_1 : decode cX7_type 1 = .ok (.iconst 1, 1) := by decide +kernel
theorem dX7_type_2 : decode cX7_type 2 = .ok (.if_icmp .lt 21, 3) := by decide +kernel
theorem dX7_type_5 : decode cX7_type 5 = .ok (.iload_n 3, 1) := by decide +kernel
theorem dX7_type_6 : decode cX7_type 6 = .ok (.bipush 8, 2) := by decide +kernel
theorem dX7_type_8 : decode cX7_type 8 = .ok (.if_icmp .gt 15, 3) := by decide +kernel
theorem dX7_type_11 : decode cX7_type 11 = .ok (.aload_n 0, 1) := by decide +kernel
theorem dX7_type_12 : decode cX7_type 12 = .ok (.getfield 70, 3) := by decide +kernel
theorem dX7_type_15 : decode cX7_type 15 = .ok (.iload_n 3, 1) := by decide +kernel
theorem dX7_type_16 : decode cX7_type 16 = .ok (.iadd, 1) := by decide +kernel
theorem dX7_type_17 : decode cX7_type 17 = .ok (.sipush 700, 3) := by decide +kernel
theorem dX7_type_20 : decode cX7_type 20 = .ok (.if_icmp .le 5, 3) := by decide +kernel
theorem dX7_type_23 : decode cX7_type 23 = .ok (.iconst (-1), 1) := by decide +kernel
theorem dX7_type_24 : decode cX7_type 24 = .ok (.ireturn, 1) := by decide +kernel
theorem dX7_type_25 : decode cX7_type 25 = .ok (.iload_n 3, 1) := by decide +kernel
theorem dX7_type_26 : decode cX7_type 26 = .ok (.iconst 1, 1) := by decide +kernel
theorem dX7_type_27 : decode cX7_type 27 = .ok (.isub, 1) := by decide +kernel
theorem dX7_type_28 : decode cX7_type 28 = .ok (.istore 4, 2) := by decide +kernel
theorem dX7_type_30 : decode cX7_type 30 = .ok (.iload 4, 2) := by decide +kernel
theorem dX7_type_32 : decode cX7_type 32 = .ok (.ifCond .lt 37, 3) := by decide +kernel
theorem dX7_type_35 : decode cX7_type 35 = .ok (.aload_n 0, 1) := by decide +kernel
theorem dX7_type_36 : decode cX7_type 36 = .ok (.getfield 7, 3) := by decide +kernel
theorem dX7_type_39 : decode cX7_type 39 = .ok (.aload_n 0, 1) := by decide +kernel
theorem dX7_type_40 : decode cX7_type 40 = .ok (.getfield 70, 3) := by decide +kernel
theorem dX7_type_43 : decode cX7_type 43 = .ok (.lload_n 1, 1) := by decide +kernel
theorem dX7_type_44 : decode cX7_type 44 = .ok (.bipush 8, 2) := by decide +kernel
theorem dX7_type_46 : decode cX7_type 46 = .ok (.iload 4, 2) := by decide +kernel
theorem dX7_type_48 : decode cX7_type 48 = .ok (.imul, 1) := by decide +kernel
theorem dX7_type_49 : decode cX7_type 49 = .ok (.lshr, 1) := by decide +kernel
theorem dX7_type_50 : decode cX7_type 50 = .ok (.l2i, 1) := by decide +kernel
theorem dX7_type_51 : decode cX7_type 51 = .ok (.i2b, 1) := by decide +kernel
theorem dX7_type_52 : decode cX7_type 52 = .ok (.bastore, 1) := by decide +kernel
theorem dX7_type_53 : decode cX7_type 53 = .ok (.aload_n 0, 1) := by decide +kernel
theorem dX7_type_54 : decode cX7_type 54 = .ok (.dup, 1) := by decide +kernel
theorem dX7_type_55 : decode cX7_type 55 = .ok (.getfield 70, 3) := by decide +kernel
theorem dX7_type_58 : decode cX7_type 58 = .ok (.iconst 1, 1) := by decide +kernel
theorem dX7_type_59 : decode cX7_type 59 = .ok (.iadd, 1) := by decide +kernel
theorem dX7_type_60 : decode cX7_type 60 = .ok (.putfield 70, 3) := by decide +kernel
theorem dX7_type_63 : decode cX7_type 63 = .ok (.iinc 4 (-1), 3) := by decide +kernel
theorem dX7_type_66 : decode cX7_type 66 = .ok (.goto (-36), 3) := by decide +kernel
theorem dX7_type_69 : decode cX7_type 69 = .ok (.aload_n 0, 1) := by decide +kernel
theorem dX7_type_70 : decode cX7_type 70 = .ok (.getfield 70, 3) := by decide +kernel
theorem dX7_type_73 : decode cX7_type 73 = .ok (.ireturn, 1) := by decide +kernel
set_option maxRecDepth 20000 in
theorem ggX7_tell_X7_isMore : GoodIn wsX7_tell wsX7_isMore := goodIn_r _ [10] (by decide +kernel) (by decide +kernel)
set_option maxRecDepth 20000 in
theorem gX7_tell_X7_isMore : GoodIn wsX7_tell (va_wsS RX7 73 yX7_isMore wsX7_isMore) := goodIn_app (goodIn_of _ (by decide +kernel)) ggX7_tell_X7_isMore
theorem dX7_tell_0 : decode cX7_tell 0 = .ok (.iload_n 1, 1) := by decide +kernel
theorem dX7_tell_1 : decode cX7_tell 1 = .ok (.iconst 1, 1) := by decide +kernel
theorem dX7_tell_2 : decode cX7_tell 2 = .ok (.if_icmp .eq 8, 3) := by decide +kernel
theorem dX7_tell_5 : decode cX7_tell 5 = .ok (.iload_n 1, 1) := by decide +kernel
theorem dX7_tell_6 : decode cX7_tell 6 = .ok (.iconst 2, 1) := by decide +kernel
theorem dX7_tell_7 : decode cX7_tell 7 = .ok (.if_icmp .ne 7, 3) := by decide +kernel
theorem dX7_tell_10 : decode cX7_tell 10 = .ok (.iconst 1, 1) := by decide +kernel
theorem dX7_tell_11 : decode cX7_tell 11 = .ok (.goto 4, 3) := by decide +kernel
theorem dX7_tell_14 : decode cX7_tell 14 = .ok (.iconst 0, 1) := by decide +kernel
theorem dX7_tell_15 : decode cX7_tell 15 = .ok (.istore_n 2, 1) := by decide +kernel
theorem dX7_tell_16 : decode cX7_tell 16 = .ok (.iload_n 2, 1) := by decide +kernel
theorem dX7_tell_17 : decode cX7_tell 17 = .ok (.ifCond .ne 12, 3) := by decide +kernel
theorem dX7_tell_20 : decode cX7_tell 20 = .ok (.iload_n 1, 1) := by decide +kernel
theorem dX7_tell_21 : decode cX7_tell 21 = .ok (.invokestatic 73, 3) := by decide +kernel
theorem dX7_tell_24 : decode cX7_tell 24 = .ok (.ifCond .ne 5, 3) := by decide +kernel
theorem dX7_tell_27 : decode cX7_tell 27 = .ok (.iconst 0, 1) := by decide +kernel
theorem dX7_tell_28 : decode cX7_tell 28 = .ok (.ireturn, 1) := by decide +kernel
theorem dX7_tell_29 : decode cX7_tell 29 = .ok (.iload_n 2, 1) := by decide +kernel
theorem dX7_tell_30 : decode cX7_tell 30 = .ok (.ifCond .eq 23, 3) := by decide +kernel
theorem dX7_tell_33 : decode cX7_tell 33 = .ok (.aload_n 0, 1) := by decide +kernel
theorem dX7_tell_34 : decode cX7_tell 34 = .ok (.getfield 70, 3) := by decide +kernel
theorem dX7_tell_37 : decode cX7_tell 37 = .ok (.iconst 2, 1) := by decide +kernel
theorem dX7_tell_38 : decode cX7_tell 38 = .ok (.if_icmp .lt 24, 3) := by decide +kernel
theorem dX7_tell_41 : decode cX7_tell 41 = .ok (.aload_n 0, 1) := by decide +kernel
theorem dX7_tell_42 : decode cX7_tell 42 = .ok (.getfield 70, 3) := by decide +kernel
theorem dX7_tell_45 : decode cX7_tell 45 = .ok (.bipush 59, 2) := by decide +kernel
theorem dX7_tell_47 : decode cX7_tell 47 = .ok (.if_icmp .le 17, 3) := by decide +kernel
theorem dX7_tell_50 : decode cX7_tell 50 = .ok (.goto 12, 3) := by decide +kernel
theorem dX7_tell_53 : decode cX7_tell 53 = .ok (.aload_n 0, 1) := by decide +kernel
theorem dX7_tell_54 : decode cX7_tell 54 = .ok (.getfield 70, 3) := by decide +kernel
theorem dX7_tell_57 : decode cX7_tell 57 = .ok (.bipush 60, 2) := by decide +kernel
theorem dX7_tell_59 : decode cX7_tell 59 = .ok (.if_icmp .le 5, 3) := by decide +kernel
theorem dX7_tell_62 : decode cX7_tell 62 = .ok (.iconst 0, 1) := by decide +kernel
theorem dX7_tell_63 : decode cX7_tell 63 = .ok (.ireturn, 1) := by decide +kernel
theorem dX7_tell_64 : decode cX7_tell 64 = .ok (.iconst 0, 1) := by decide +kernel
theorem dX7_tell_65 : decode cX7_tell 65 = .ok (.istore_n 3, 1) := by decide +kernel
theorem dX7_tell_66 : decode cX7_tell 66 = .ok (.iload_n 3, 1) := by decide +kernel
theorem dX7_tell_67 : decode cX7_tell 67 = .ok (.aload_n 0, 1) := by decide +kernel
theorem dX7_tell_68 : decode cX7_tell 68 = .ok (.getfield 70, 3) := by decide +kernel
theorem dX7_tell_71 : decode cX7_tell 71 = .ok (.if_icmp .ge 26, 3) := by decide +kernel
theorem dX7_tell_74 : decode cX7_tell 74 = .ok (.aload_n 0, 1) := by decide +kernel
theorem dX7_tell_75 : decode cX7_tell 75 = .ok (.getfield 13, 3) := by decide +kernel
theorem dX7_tell_78 : decode cX7_tell 78 = .ok (.bipush 60, 2) := by decide +kernel
theorem dX7_tell_80 : decode cX7_tell 80 = .ok (.iload_n 1, 1) := by decide +kernel
theorem dX7_tell_81 : decode cX7_tell 81 = .ok (.imul, 1) := by decide +kernel
theorem dX7_tell_82 : decode cX7_tell 82 = .ok (.iload_n 3, 1) := by decide +kernel
theorem dX7_tell_83 : decode cX7_tell 83 = .ok (.iadd, 1) := by decide +kernel
theorem dX7_tell_84 : decode cX7_tell 84 = .ok (.aload_n 0, 1) := by decide +kernel
theorem dX7_tell_85 : decode cX7_tell 85 = .ok (.getfield 7, 3) := by decide +kernel
theorem dX7_tell_88 : decode cX7_tell 88 = .ok (.iload_n 3, 1) := by decide +kernel
theorem dX7_tell_89 : decode cX7_tell 89 = .ok (.baload, 1) := by decide +kernel
theorem dX7_tell_90 : decode cX7_tell 90 = .ok (.bastore, 1) := by decide +kernel
theorem dX7_tell_91 : decode cX7_tell 91 = .ok (.iinc 3 1, 3) := by decide +kernel
theorem dX7_tell_94 : decode cX7_tell 94 = .ok (.goto (-28), 3) := by decide +kernel
theorem dX7_tell_97 : decode cX7_tell 97 = .ok (.aload_n 0, 1) := by decide +kernel
theorem dX7_tell_98 : decode cX7_tell 98 = .ok (.getfield 16, 3) := by decide +kernel
theorem dX7_tell_101 : decode cX7_tell 101 = .ok (.iload_n 1, 1) := by decide +kernel
theorem dX7_tell_102 : decode cX7_tell 102 = .ok (.aload_n 0, 1) := by decide +kernel
theorem dX7_tell_103 : decode cX7_tell 103 = .ok (.getfield 70, 3) := by decide +kernel
theorem dX7_tell_106 : decode cX7_tell 106 = .ok (.ifCond .ne 7, 3) := by decide +kernel
theorem dX7_tell_109 : decode cX7_tell 109 = .ok (.iconst (-1), 1) := by decide +kernel
theorem dX7_tell_110 : decode cX7_tell 110 = .ok (.goto 7, 3) := by decide +kernel
theorem dX7_tell_113 : decode cX7_tell 113 = .ok (.aload_n 0, 1) := by decide +kernel
theorem dX7_tell_114 : decode cX7_tell 114 = .ok (.getfield 70, 3) := by decide +kernel
theorem dX7_tell_117 : decode cX7_tell 117 = .ok (.iastore, 1) := by decide +kernel
theorem dX7_tell_118 : decode cX7_tell 118 = .ok (.aload_n 0, 1) := by decide +kernel
theorem dX7_tell_119 : decode cX7_tell 119 = .ok (.iconst 0, 1) := by decide +kernel
theorem dX7_tell_120 : decode cX7_tell 120 = .ok (.putfield 70, 3) := by decide +kernel
theorem dX7_tell_123 : decode cX7_tell 123 = .ok (.iconst 0, 1) := by decide +kernel
theorem dX7_tell_124 : decode cX7_tell 124 = .ok (.istore_n 3, 1) := by decide +kernel
theorem dX7_tell_125 : decode cX7_tell 125 = .ok (.iload_n 3, 1) := by decide +kernel
theorem dX7_tell_126 : decode cX7_tell 126 = .ok (.iconst 4, 1) := by decide +kernel
theorem dX7_tell_127 : decode cX7_tell 127 = .ok (.if_icmp .ge 29, 3) := by decide +kernel
theorem dX7_tell_130 : decode cX7_tell 130 = .ok (.aload_n 0, 1) := by decide +kernel
theorem dX7_tell_131 : decode cX7_tell 131 = .ok (.getfield 43, 3) := by decide +kernel
theorem dX7_tell_134 : decode cX7_tell 134 = .ok (.iload_n 3, 1) := by decide +kernel
theorem dX7_tell_135 : decode cX7_tell 135 = .ok (.aload_n 0, 1) := by decide +kernel
theorem dX7_tell_136 : decode cX7_tell 136 = .ok (.getfield 30, 3) := by decide +kernel
theorem dX7_tell_139 : decode cX7_tell 139 = .ok (.iload_n 3, 1) := by decide +kernel
theorem dX7_tell_140 : decode cX7_tell 140 = .ok (.baload, 1) := by decide +kernel
theorem dX7_tell_141 : decode cX7_tell 141 = .ok (.ifCond .eq 7, 3) := by decide +kernel
theorem dX7_tell_144 : decode cX7_tell 144 = .ok (.iconst 1, 1) := by decide +kernel
theorem dX7_tell_145 : decode cX7_tell 145 = .ok (.goto 4, 3) := by decide +kernel
theorem dX7_tell_148 : decode cX7_tell 148 = .ok (.iconst 0, 1) := by decide +kernel
theorem dX7_tell_149 : decode cX7_tell 149 = .ok (.iastore, 1) := by decide +kernel
theorem dX7_tell_150 : decode cX7_tell 150 = .ok (.iinc 3 1, 3) := by decide +kernel
theorem dX7_tell_153 : decode cX7_tell 153 = .ok (.goto (-28), 3) := by decide +kernel
theorem dX7_tell_156 : decode cX7_tell 156 = .ok (.iconst 1, 1) := by decide +kernel
theorem dX7_tell_157 : decode cX7_tell 157 = .ok (.ireturn, 1) := by decide +kernel
theorem dX7_set_0 : decode cX7_set 0 = .ok (.iload_n 1, 1) := by decide +kernel
theorem dX7_set_1 : decode cX7_set 1 = .ok (.iconst 1, 1) := by decide +kernel
theorem dX7_set_2 : decode cX7_set 2 = .ok (.if_icmp .ne 7, 3) := by decide +kernel
theorem dX7_set_5 : decode cX7_set 5 = .ok (.iconst 2, 1) := by decide +kernel
theorem dX7_set_6 : decode cX7_set 6 = .ok (.goto 4, 3) := by decide +kernel
theorem dX7_set_9 : decode cX7_set 9 = .ok (.iconst 1, 1) := by decide +kernel
theorem dX7_set_10 : decode cX7_set 10 = .ok (.istore_n 3, 1) := by decide +kernel
theorem dX7_set_11 : decode cX7_set 11 = .ok (.iload_n 1, 1) := by decide +kernel
theorem dX7_set_12 : decode cX7_set 12 = .ok (.ifCond .ne 9, 3) := by decide +kernel
theorem dX7_set_15 : decode cX7_set 15 = .ok (.sipush 3600, 3) := by decide +kernel
theorem dX7_set_18 : decode cX7_set 18 = .ok (.goto 15, 3) := by decide +kernel
theorem dX7_set_21 : decode cX7_set 21 = .ok (.iload_n 1, 1) := by decide +kernel
theorem dX7_set_22 : decode cX7_set 22 = .ok (.iconst 1, 1) := by decide +kernel
theorem dX7_set_23 : decode cX7_set 23 = .ok (.if_icmp .ne 8, 3) := by decide +kernel
theorem dX7_set_26 : decode cX7_set 26 = .ok (.bipush 10, 2) := by decide +kernel
theorem dX7_set_28 : decode cX7_set 28 = .ok (.goto 5, 3) := by decide +kernel
theorem dX7_set_31 : decode cX7_set 31 = .ok (.bipush 8, 2) := by decide +kernel
theorem dX7_set_33 : decode cX7_set 33 = .ok (.istore 4, 2) := by decide +kernel
theorem dX7_set_35 : decode cX7_set 35 = .ok (.iload_n 1, 1) := by decide +kernel
theorem dX7_set_36 : decode cX7_set 36 = .ok (.ifCond .lt 19, 3) := by decide +kernel
theorem dX7_set_39 : decode cX7_set 39 = .ok (.iload_n 1, 1) := by decide +kernel
theorem dX7_set_40 : decode cX7_set 40 = .ok (.iconst 2, 1) := by decide +kernel
theorem dX7_set_41 : decode cX7_set 41 = .ok (.if_icmp .gt 14, 3) := by decide +kernel
theorem dX7_set_44 : decode cX7_set 44 = .ok (.iload_n 2, 1) := by decide +kernel
theorem dX7_set_45 : decode cX7_set 45 = .ok (.iload_n 3, 1) := by decide +kernel
theorem dX7_set_46 : decode cX7_set 46 = .ok (.if_icmp .lt 9, 3) := by decide +kernel
theorem dX7_set_49 : decode cX7_set 49 = .ok (.iload_n 2, 1) := by decide +kernel
theorem dX7_set_50 : decode cX7_set 50 = .ok (.iload 4, 2) := by decide +kernel
theorem dX7_set_52 : decode cX7_set 52 = .ok (.if_icmp .le 5, 3) := by decide +kernel
theorem dX7_set_55 : decode cX7_set 55 = .ok (.iconst 0, 1) := by decide +kernel
theorem dX7_set_56 : decode cX7_set 56 = .ok (.ireturn, 1) := by decide +kernel
theorem dX7_set_57 : decode cX7_set 57 = .ok (.iload_n 1, 1) := by decide +kernel
theorem dX7_set_58 : decode cX7_set 58 = .ok (.ifCond .ne 11, 3) := by decide +kernel
theorem dX7_set_61 : decode cX7_set 61 = .ok (.aload_n 0, 1) := by decide +kernel
theorem dX7_set_62 : decode cX7_set 62 = .ok (.iload_n 2, 1) := by decide +kernel
theorem dX7_set_63 : decode cX7_set 63 = .ok (.putfield 20, 3) := by decide +kernel
theorem dX7_set_66 : decode cX7_set 66 = .ok (.goto 21, 3) := by decide +kernel
theorem dX7_set_69 : decode cX7_set 69 = .ok (.iload_n 1, 1) := by decide +kernel
theorem dX7_set_70 : decode cX7_set 70 = .ok (.iconst 1, 1) := by decide +kernel
theorem dX7_set_71 : decode cX7_set 71 = .ok (.if_icmp .ne 11, 3) := by decide +kernel
theorem dX7_set_74 : decode cX7_set 74 = .ok (.aload_n 0, 1) := by decide +kernel
theorem dX7_set_75 : decode cX7_set 75 = .ok (.iload_n 2, 1) := by decide +kernel
theorem dX7_set_76 : decode cX7_set 76 = .ok (.putfield 24, 3) := by decide +kernel
theorem dX7_set_79 : decode cX7_set 79 = .ok (.goto 8, 3) := by decide +kernel
theorem dX7_set_82 : decode cX7_set 82 = .ok (.aload_n 0, 1) := by decide +kernel
theorem dX7_set_83 : decode cX7_set 83 = .ok (.iload_n 2, 1) := by decide +kernel
theorem dX7_set_84 : decode cX7_set 84 = .ok (.putfield 27, 3) := by decide +kernel
theorem dX7_set_87 : decode cX7_set 87 = .ok (.iconst 1, 1) := by decide +kernel
theorem dX7_set_88 : decode cX7_set 88 = .ok (.ireturn, 1) := by decide +kernel
theorem dX7_put_0 : decode cX7_put 0 = .ok (.aload_n 0, 1) := by decide +kernel
theorem dX7_put_1 : decode cX7_put 1 = .ok (.getfield 64, 3) := by decide +kernel
theorem dX7_put_4 : decode cX7_put 4 = .ok (.aload_n 0, 1) := by decide +kernel
theorem dX7_put_5 : decode cX7_put 5 = .ok (.getfield 77, 3) := by decide +kernel
theorem dX7_put_8 : decode cX7_put 8 = .ok (.iload_n 1, 1) := by decide +kernel
theorem dX7_put_9 : decode cX7_put 9 = .ok (.i2b, 1) := by decide +kernel
theorem dX7_put_10 : decode cX7_put 10 = .ok (.bastore, 1) := by decide +kernel
theorem dX7_put_11 : decode cX7_put 11 = .ok (.aload_n 0, 1) := by decide +kernel
theorem dX7_put_12 : decode cX7_put 12 = .ok (.dup, 1) := by decide +kernel
theorem dX7_put_13 : decode cX7_put 13 = .ok (.getfield 77, 3) := by decide +kernel
theorem dX7_put_16 : decode cX7_put 16 = .ok (.iconst 1, 1) := by decide +kernel
theorem dX7_put_17 : decode cX7_put 17 = .ok (.iadd, 1) := by decide +kernel
theorem dX7_put_18 : decode cX7_put 18 = .ok (.putfield 77, 3) := by decide +kernel
theorem dX7_put_21 : decode cX7_put 21 = .ok (.return_, 1) := by decide +kernel
set_option maxRecDepth 20000 in
theorem ggX7_head_X7_put : GoodIn wsX7_head wsX7_put := goodIn_r _ [5, 6, 7, 8, 9, 10, 11, 12, 13, 14, 15, 16, 17, 18, 19, 20, 21, 22, 23, 24, 25, 26, 27, 28, 29, 30, 31] (by decide +kernel) (by decide +kernel)
set_option maxRecDepth 20000 in
theorem gX7_head_X7_put : GoodIn wsX7_head (wsV RX7 80 RX7 yX7_put wsX7_put) := goodIn_app (goodIn_of _ (by decide +kernel)) ggX7_head_X7_put
theorem dX7_head_0 : decode cX7_head 0 = .ok (.aload_n 0, 1) := by decide +kernel
theorem dX7_head_1 : decode cX7_head 1 = .ok (.iload_n 1, 1) := by decide +kernel
theorem dX7_head_2 : decode cX7_head 2 = .ok (.iconst 1, 1) := by decide +kernel
theorem dX7_head_3 : decode cX7_head 3 = .ok (.ishl, 1) := by decide +kernel
theorem dX7_head_4 : decode cX7_head 4 = .ok (.iload_n 2, 1) := by decide +kernel
theorem dX7_head_5 : decode cX7_head 5 = .ok (.bipush 8, 2) := by decide +kernel
theorem dX7_head_7 : decode cX7_head 7 = .ok (.ishr, 1) := by decide +kernel
theorem dX7_head_8 : decode cX7_head 8 = .ok (.ior, 1) := by decide +kernel
theorem dX7_head_9 : decode cX7_head 9 = .ok (.invokevirtual 80, 3) := by decide +kernel
theorem dX7_head_12 : decode cX7_head 12 = .ok (.aload_n 0, 1) := by decide +kernel
theorem dX7_head_13 : decode cX7_head 13 = .ok (.iload_n 2, 1) := by decide +kernel
theorem dX7_head_14 : decode cX7_head 14 = .ok (.invokevirtual 80, 3) := by decide +kernel
theorem dX7_head_17 : decode cX7_head 17 = .ok (.return_, 1) := by decide +kernel
set_option maxRecDepth 20000 in
theorem ggX7_send_X7_head : GoodIn wsX7_send wsX7_head := goodIn_r _ [10, 11, 12, 13, 9, 14, 15, 1, 16, 17, 18, 19, 20, 21, 22, 23, 24, 25, 26, 27, 28, 29, 30, 31, 32, 33, 34, 35, 36, 37, 38, 39] (by decide +kernel) (by decide +kernel)
set_option maxRecDepth 20000 in
theorem gX7_send_X7_head : GoodIn wsX7_send (wsV RX7 84 RX7 yX7_head wsX7_head) := goodIn_app (goodIn_of _ (by decide +kernel)) ggX7_send_X7_head
set_option maxRecDepth 20000 in
theorem ggX7_send_X7_put : GoodIn wsX7_send wsX7_put := goodIn_r _ [14, 15, 1, 16, 17, 18, 19, 20, 21, 22, 23, 24, 25, 26, 27, 28, 29, 30, 31, 32, 33, 34, 35, 36, 37, 38, 39] (by decide +kernel) (by decide +kernel)
set_option maxRecDepth 20000 in
theorem gX7_send_X7_put : GoodIn wsX7_send (wsV RX7 80 RX7 yX7_put wsX7_put) := goodIn_app (goodIn_of _ (by decide +kernel)) ggX7_send_X7_put
theorem dX7_send_0 : decode cX7_send 0 = .ok (.aload_n 0, 1) := by decide +kernel
theorem dX7_send_1 : decode cX7_send 1 = .ok (.iconst 0, 1) := by decide +kernel
theorem dX7_send_2 : decode cX7_send 2 = .ok (.putfield 77, 3) := by decide +kernel
theorem dX7_send_5 : decode cX7_send 5 = .ok (.aload_n 0, 1) := by decide +kernel
theorem dX7_send_6 : decode cX7_send 6 = .ok (.iload_n 1, 1) := by decide +kernel
theorem dX7_send_7 : decode cX7_send 7 = .ok (.putfield 67, 3) := by decide +kernel
theorem dX7_send_10 : decode cX7_send 10 = .ok (.iconst 1, 1) := by decide +kernel
theorem dX7_send_11 : decode cX7_send 11 = .ok (.istore_n 3, 1) := by decide +kernel
theorem dX7_send_12 : decode cX7_send 12 = .ok (.iload_n 3, 1) := by decide +kernel
theorem dX7_send_13 : decode cX7_send 13 = .ok (.bipush 9, 2) := by decide +kernel
theorem dX7_send_15 : decode cX7_send 15 = .ok (.if_icmp .ge 119, 3) := by decide +kernel
theorem dX7_send_18 : decode cX7_send 18 = .ok (.iload_n 3, 1) := by decide +kernel
theorem dX7_send_19 : decode cX7_send 19 = .ok (.iconst 3, 1) := by decide +kernel
theorem dX7_send_20 : decode cX7_send 20 = .ok (.if_icmp .ne 22, 3) := by decide +kernel
theorem dX7_send_23 : decode cX7_send 23 = .ok (.aload_n 0, 1) := by decide +kernel
theorem dX7_send_24 : decode cX7_send 24 = .ok (.iconst 3, 1) := by decide +kernel
theorem dX7_send_25 : decode cX7_send 25 = .ok (.iconst 2, 1) := by decide +kernel
theorem dX7_send_26 : decode cX7_send 26 = .ok (.invokevirtual 84, 3) := by decide +kernel
theorem dX7_send_29 : decode cX7_send 29 = .ok (.aload_n 0, 1) := by decide +kernel
theorem dX7_send_30 : decode cX7_send 30 = .ok (.iload_n 2, 1) := by decide +kernel
theorem dX7_send_31 : decode cX7_send 31 = .ok (.bipush 8, 2) := by decide +kernel
theorem dX7_send_33 : decode cX7_send 33 = .ok (.ishr, 1) := by decide +kernel
theorem dX7_send_34 : decode cX7_send 34 = .ok (.invokevirtual 80, 3) := by decide +kernel
theorem dX7_send_37 : decode cX7_send 37 = .ok (.aload_n 0, 1) := by decide +kernel
theorem dX7_send_38 : decode cX7_send 38 = .ok (.iload_n 2, 1) := by decide +kernel
theorem dX7_send_39 : decode cX7_send 39 = .ok (.invokevirtual 80, 3) := by decide +kernel
theorem dX7_send_42 : decode cX7_send 42 = .ok (.iload_n 3, 1) := by decide +kernel
theorem dX7_send_43 : decode cX7_send 43 = .ok (.iconst 3, 1) := by decide +kernel
theorem dX7_send_44 : decode cX7_send 44 = .ok (.if_icmp .eq 84, 3) := by decide +kernel
theorem dX7_send_47 : decode cX7_send 47 = .ok (.aload_n 0, 1) := by decide +kernel
theorem dX7_send_48 : decode cX7_send 48 = .ok (.getfield 16, 3) := by decide +kernel
theorem dX7_send_51 : decode cX7_send 51 = .ok (.iload_n 3, 1) := by decide +kernel
theorem dX7_send_52 : decode cX7_send 52 = .ok (.iaload, 1) := by decide +kernel
theorem dX7_send_53 : decode cX7_send 53 = .ok (.iconst (-1), 1) := by decide +kernel
theorem dX7_send_54 : decode cX7_send 54 = .ok (.if_icmp .ne 6, 3) := by decide +kernel
theorem dX7_send_57 : decode cX7_send 57 = .ok (.goto 71, 3) := by decide +kernel
theorem dX7_send_60 : decode cX7_send 60 = .ok (.aload_n 0, 1) := by decide +kernel
theorem dX7_send_61 : decode cX7_send 61 = .ok (.iload_n 3, 1) := by decide +kernel
theorem dX7_send_62 : decode cX7_send 62 = .ok (.aload_n 0, 1) := by decide +kernel
theorem dX7_send_63 : decode cX7_send 63 = .ok (.getfield 16, 3) := by decide +kernel
theorem dX7_send_66 : decode cX7_send 66 = .ok (.iload_n 3, 1) := by decide +kernel
theorem dX7_send_67 : decode cX7_send 67 = .ok (.iaload, 1) := by decide +kernel
theorem dX7_send_68 : decode cX7_send 68 = .ok (.iload_n 3, 1) := by decide +kernel
theorem dX7_send_69 : decode cX7_send 69 = .ok (.iconst 2, 1) := by decide +kernel
theorem dX7_send_70 : decode cX7_send 70 = .ok (.if_icmp .ne 7, 3) := by decide +kernel
theorem dX7_send_73 : decode cX7_send 73 = .ok (.iconst 1, 1) := by decide +kernel
theorem dX7_send_74 : decode cX7_send 74 = .ok (.goto 4, 3) := by decide +kernel
theorem dX7_send_77 : decode cX7_send 77 = .ok (.iconst 0, 1) := by decide +kernel
theorem dX7_send_78 : decode cX7_send 78 = .ok (.iadd, 1) := by decide +kernel
theorem dX7_send_79 : decode cX7_send 79 = .ok (.invokevirtual 84, 3) := by decide +kernel
theorem dX7_send_82 : decode cX7_send 82 = .ok (.iconst 0, 1) := by decide +kernel
theorem dX7_send_83 : decode cX7_send 83 = .ok (.istore 4, 2) := by decide +kernel
theorem dX7_send_85 : decode cX7_send 85 = .ok (.iload 4, 2) := by decide +kernel
theorem dX7_send_87 : decode cX7_send 87 = .ok (.aload_n 0, 1) := by decide +kernel
theorem dX7_send_88 : decode cX7_send 88 = .ok (.getfield 16, 3) := by decide +kernel
theorem dX7_send_91 : decode cX7_send 91 = .ok (.iload_n 3, 1) := by decide +kernel
theorem dX7_send_92 : decode cX7_send 92 = .ok (.iaload, 1) := by decide +kernel
theorem dX7_send_93 : decode cX7_send 93 = .ok (.if_icmp .ge 25, 3) := by decide +kernel
theorem dX7_send_96 : decode cX7_send 96 = .ok (.aload_n 0, 1) := by decide +kernel
theorem dX7_send_97 : decode cX7_send 97 = .ok (.aload_n 0, 1) := by decide +kernel
theorem dX7_send_98 : decode cX7_send 98 = .ok (.getfield 13, 3) := by decide +kernel
theorem dX7_send_101 : decode cX7_send 101 = .ok (.bipush 60, 2) := by decide +kernel
theorem dX7_send_103 : decode cX7_send 103 = .ok (.iload_n 3, 1) := by decide +kernel
theorem dX7_send_104 : decode cX7_send 104 = .ok (.imul, 1) := by decide +kernel
theorem dX7_send_105 : decode cX7_send 105 = .ok (.iload 4, 2) := by decide +kernel
theorem dX7_send_107 : decode cX7_send 107 = .ok (.iadd, 1) := by decide +kernel
theorem dX7_send_108 : decode cX7_send 108 = .ok (.baload, 1) := by decide +kernel
theorem dX7_send_109 : decode cX7_send 109 = .ok (.invokevirtual 80, 3) := by decide +kernel
theorem dX7_send_112 : decode cX7_send 112 = .ok (.iinc 4 1, 3) := by decide +kernel
theorem dX7_send_115 : decode cX7_send 115 = .ok (.goto (-30), 3) := by decide +kernel
theorem dX7_send_118 : decode cX7_send 118 = .ok (.iload_n 3, 1) := by decide +kernel
theorem dX7_send_119 : decode cX7_send 119 = .ok (.iconst 2, 1) := by decide +kernel
theorem dX7_send_120 : decode cX7_send 120 = .ok (.if_icmp .ne 8, 3) := by decide +kernel
theorem dX7_send_123 : decode cX7_send 123 = .ok (.aload_n 0, 1) := by decide +kernel
theorem dX7_send_124 : decode cX7_send 124 = .ok (.iload_n 1, 1) := by decide +kernel
theorem dX7_send_125 : decode cX7_send 125 = .ok (.invokevirtual 80, 3) := by decide +kernel
theorem dX7_send_128 : decode cX7_send 128 = .ok (.iinc 3 1, 3) := by decide +kernel
theorem dX7_send_131 : decode cX7_send 131 = .ok (.goto (-119), 3) := by decide +kernel
theorem dX7_send_134 : decode cX7_send 134 = .ok (.aload_n 0, 1) := by decide +kernel
theorem dX7_send_135 : decode cX7_send 135 = .ok (.iconst 0, 1) := by decide +kernel
theorem dX7_send_136 : decode cX7_send 136 = .ok (.iconst 0, 1) := by decide +kernel
theorem dX7_send_137 : decode cX7_send 137 = .ok (.invokevirtual 84, 3) := by decide +kernel
theorem dX7_send_140 : decode cX7_send 140 = .ok (.aload_n 0, 1) := by decide +kernel
theorem dX7_send_141 : decode cX7_send 141 = .ok (.getfield 34, 3) := by decide +kernel
theorem dX7_send_144 : decode cX7_send 144 = .ok (.iload_n 1, 1) := by decide +kernel
theorem dX7_send_145 : decode cX7_send 145 = .ok (.dup2, 1) := by decide +kernel
theorem dX7_send_146 : decode cX7_send 146 = .ok (.iaload, 1) := by decide +kernel
theorem dX7_send_147 : decode cX7_send 147 = .ok (.iconst 1, 1) := by decide +kernel
theorem dX7_send_148 : decode cX7_send 148 = .ok (.iadd, 1) := by decide +kernel
theorem dX7_send_149 : decode cX7_send 149 = .ok (.iastore, 1) := by decide +kernel
theorem dX7_send_150 : decode cX7_send 150 = .ok (.return_, 1) := by decide +kernel
set_option maxRecDepth 20000 in
theorem ggX7_port_X7_send : GoodIn wsX7_port wsX7_send := goodIn_r _ [11, 12, 13, 14, 15, 16, 17, 18, 19, 10, 20, 21, 22, 23, 24, 25, 38, 39, 40, 41, 42, 43, 44, 45, 46, 47, 48, 49, 50, 51, 52, 53, 54, 55, 56, 57, 58, 59, 60, 61] (by decide +kernel) (by decide +kernel)
set_option maxRecDepth 20000 in
theorem gX7_port_X7_send : GoodIn wsX7_port (wsV RX7 88 RX7 yX7_send wsX7_send) := goodIn_app (goodIn_of _ (by decide +kernel)) ggX7_port_X7_send
set_option maxRecDepth 20000 in
theorem ggX7_port_X7_forget : GoodIn wsX7_port wsX7_forget := goodIn_r _ [29, 5, 30, 31, 32, 10, 33, 6, 34, 35, 36, 37, 38, 39, 40, 41, 42, 43, 44, 45, 46, 47, 48, 49, 50, 51, 52, 53, 54, 55, 56, 57, 58, 59, 60, 61] (by decide +kernel) (by decide +kernel)
set_option maxRecDepth 20000 in
theorem gX7_port_X7_forget : GoodIn wsX7_port (wsV RX7 94 RX7 yX7_forget wsX7_forget) := goodIn_app (goodIn_of _ (by decide +kernel)) ggX7_port_X7_forget
theorem dX7_port_0 : decode cX7_port 0 = .ok (.iload_n 1, 1) := by decide +kernel
theorem dX7_port_1 : decode cX7_port 1 = .ok (.ifCond .lt 36, 3) := by decide +kernel
theorem dX7_port_4 : decode cX7_port 4 = .ok (.iload_n 1, 1) := by decide +kernel
theorem dX7_port_5 : decode cX7_port 5 = .ok (.iconst 4, 1) := by decide +kernel
theorem dX7_port_6 : decode cX7_port 6 = .ok (.if_icmp .ge 31, 3) := by decide +kernel
theorem dX7_port_9 : decode cX7_port 9 = .ok (.iload_n 2, 1) := by decide +kernel
theorem dX7_port_10 : decode cX7_port 10 = .ok (.ifCond .lt 27, 3) := by decide +kernel
theorem dX7_port_13 : decode cX7_port 13 = .ok (.iload_n 2, 1) := by decide +kernel
theorem dX7_port_14 : decode cX7_port 14 = .ok (.iconst 1, 1) := by decide +kernel
theorem dX7_port_15 : decode cX7_port 15 = .ok (.if_icmp .gt 22, 3) := by decide +kernel
theorem dX7_port_18 : decode cX7_port 18 = .ok (.aload_n 0, 1) := by decide +kernel
theorem dX7_port_19 : decode cX7_port 19 = .ok (.getfield 30, 3) := by decide +kernel
theorem dX7_port_22 : decode cX7_port 22 = .ok (.iload_n 1, 1) := by decide +kernel
theorem dX7_port_23 : decode cX7_port 23 = .ok (.baload, 1) := by decide +kernel
theorem dX7_port_24 : decode cX7_port 24 = .ok (.iload_n 2, 1) := by decide +kernel
theorem dX7_port_25 : decode cX7_port 25 = .ok (.iconst 1, 1) := by decide +kernel
theorem dX7_port_26 : decode cX7_port 26 = .ok (.if_icmp .ne 7, 3) := by decide +kernel
theorem dX7_port_29 : decode cX7_port 29 = .ok (.iconst 1, 1) := by decide +kernel
theorem dX7_port_30 : decode cX7_port 30 = .ok (.goto 4, 3) := by decide +kernel
theorem dX7_port_33 : decode cX7_port 33 = .ok (.iconst 0, 1) := by decide +kernel
theorem dX7_port_34 : decode cX7_port 34 = .ok (.if_icmp .ne 5, 3) := by decide +kernel
theorem dX7_port_37 : decode cX7_port 37 = .ok (.iconst 0, 1) := by decide +kernel
theorem dX7_port_38 : decode cX7_port 38 = .ok (.ireturn, 1) := by decide +kernel
theorem dX7_port_39 : decode cX7_port 39 = .ok (.aload_n 0, 1) := by decide +kernel
theorem dX7_port_40 : decode cX7_port 40 = .ok (.getfield 30, 3) := by decide +kernel
theorem dX7_port_43 : decode cX7_port 43 = .ok (.iload_n 1, 1) := by decide +kernel
theorem dX7_port_44 : decode cX7_port 44 = .ok (.iload_n 2, 1) := by decide +kernel
theorem dX7_port_45 : decode cX7_port 45 = .ok (.iconst 1, 1) := by decide +kernel
theorem dX7_port_46 : decode cX7_port 46 = .ok (.if_icmp .ne 7, 3) := by decide +kernel
theorem dX7_port_49 : decode cX7_port 49 = .ok (.iconst 1, 1) := by decide +kernel
theorem dX7_port_50 : decode cX7_port 50 = .ok (.goto 4, 3) := by decide +kernel
theorem dX7_port_53 : decode cX7_port 53 = .ok (.iconst 0, 1) := by decide +kernel
theorem dX7_port_54 : decode cX7_port 54 = .ok (.bastore, 1) := by decide +kernel
theorem dX7_port_55 : decode cX7_port 55 = .ok (.aload_n 0, 1) := by decide +kernel
theorem dX7_port_56 : decode cX7_port 56 = .ok (.getfield 43, 3) := by decide +kernel
theorem dX7_port_59 : decode cX7_port 59 = .ok (.iload_n 1, 1) := by decide +kernel
theorem dX7_port_60 : decode cX7_port 60 = .ok (.iload_n 2, 1) := by decide +kernel
theorem dX7_port_61 : decode cX7_port 61 = .ok (.iastore, 1) := by decide +kernel
theorem dX7_port_62 : decode cX7_port 62 = .ok (.aload_n 0, 1) := by decide +kernel
theorem dX7_port_63 : decode cX7_port 63 = .ok (.getfield 46, 3) := by decide +kernel
theorem dX7_port_66 : decode cX7_port 66 = .ok (.iload_n 1, 1) := by decide +kernel
theorem dX7_port_67 : decode cX7_port 67 = .ok (.iload_n 2, 1) := by decide +kernel
theorem dX7_port_68 : decode cX7_port 68 = .ok (.iconst 1, 1) := by decide +kernel
theorem dX7_port_69 : decode cX7_port 69 = .ok (.if_icmp .ne 10, 3) := by decide +kernel
theorem dX7_port_72 : decode cX7_port 72 = .ok (.aload_n 0, 1) := by decide +kernel
theorem dX7_port_73 : decode cX7_port 73 = .ok (.getfield 27, 3) := by decide +kernel
theorem dX7_port_76 : decode cX7_port 76 = .ok (.goto 4, 3) := by decide +kernel
theorem dX7_port_79 : decode cX7_port 79 = .ok (.iconst 0, 1) := by decide +kernel
theorem dX7_port_80 : decode cX7_port 80 = .ok (.iastore, 1) := by decide +kernel
theorem dX7_port_81 : decode cX7_port 81 = .ok (.iload_n 2, 1) := by decide +kernel
theorem dX7_port_82 : decode cX7_port 82 = .ok (.ifCond .ne 41, 3) := by decide +kernel
theorem dX7_port_85 : decode cX7_port 85 = .ok (.aload_n 0, 1) := by decide +kernel
theorem dX7_port_86 : decode cX7_port 86 = .ok (.iload_n 1, 1) := by decide +kernel
theorem dX7_port_87 : decode cX7_port 87 = .ok (.iconst 0, 1) := by decide +kernel
theorem dX7_port_88 : decode cX7_port 88 = .ok (.invokevirtual 88, 3) := by decide +kernel
theorem dX7_port_91 : decode cX7_port 91 = .ok (.aload_n 0, 1) := by decide +kernel
theorem dX7_port_92 : decode cX7_port 92 = .ok (.getfield 91, 3) := by decide +kernel
theorem dX7_port_95 : decode cX7_port 95 = .ok (.iconst 1, 1) := by decide +kernel
theorem dX7_port_96 : decode cX7_port 96 = .ok (.isub, 1) := by decide +kernel
theorem dX7_port_97 : decode cX7_port 97 = .ok (.istore_n 3, 1) := by decide +kernel
theorem dX7_port_98 : decode cX7_port 98 = .ok (.iload_n 3, 1) := by decide +kernel
theorem dX7_port_99 : decode cX7_port 99 = .ok (.ifCond .lt 24, 3) := by decide +kernel
theorem dX7_port_102 : decode cX7_port 102 = .ok (.aload_n 0, 1) := by decide +kernel
theorem dX7_port_103 : decode cX7_port 103 = .ok (.getfield 49, 3) := by decide +kernel
theorem dX7_port_106 : decode cX7_port 106 = .ok (.iload_n 3, 1) := by decide +kernel
theorem dX7_port_107 : decode cX7_port 107 = .ok (.iaload, 1) := by decide +kernel
theorem dX7_port_108 : decode cX7_port 108 = .ok (.iload_n 1, 1) := by decide +kernel
theorem dX7_port_109 : decode cX7_port 109 = .ok (.if_icmp .ne 8, 3) := by decide +kernel
theorem dX7_port_112 : decode cX7_port 112 = .ok (.aload_n 0, 1) := by decide +kernel
theorem dX7_port_113 : decode cX7_port 113 = .ok (.iload_n 3, 1) := by decide +kernel
theorem dX7_port_114 : decode cX7_port 114 = .ok (.invokevirtual 94, 3) := by decide +kernel
theorem dX7_port_117 : decode cX7_port 117 = .ok (.iinc 3 (-1), 3) := by decide +kernel
theorem dX7_port_120 : decode cX7_port 120 = .ok (.goto (-22), 3) := by decide +kernel
theorem dX7_port_123 : decode cX7_port 123 = .ok (.iconst 1, 1) := by decide +kernel
theorem dX7_port_124 : decode cX7_port 124 = .ok (.ireturn, 1) := by decide +kernel
theorem dX7_move_0 : decode cX7_move 0 = .ok (.aload_n 0, 1) := by decide +kernel
theorem dX7_move_1 : decode cX7_move 1 = .ok (.getfield 49, 3) := by decide +kernel
theorem dX7_move_4 : decode cX7_move 4 = .ok (.iload_n 2, 1) := by decide +kernel
theorem dX7_move_5 : decode cX7_move 5 = .ok (.aload_n 0, 1) := by decide +kernel
theorem dX7_move_6 : decode cX7_move 6 = .ok (.getfield 49, 3) := by decide +kernel
theorem dX7_move_9 : decode cX7_move 9 = .ok (.iload_n 1, 1) := by decide +kernel
theorem dX7_move_10 : decode cX7_move 10 = .ok (.iaload, 1) := by decide +kernel
theorem dX7_move_11 : decode cX7_move 11 = .ok (.iastore, 1) := by decide +kernel
theorem dX7_move_12 : decode cX7_move 12 = .ok (.aload_n 0, 1) := by decide +kernel
theorem dX7_move_13 : decode cX7_move 13 = .ok (.getfield 52, 3) := by decide +kernel
theorem dX7_move_16 : decode cX7_move 16 = .ok (.iload_n 2, 1) := by decide +kernel
theorem dX7_move_17 : decode cX7_move 17 = .ok (.aload_n 0, 1) := by decide +kernel
theorem dX7_move_18 : decode cX7_move 18 = .ok (.getfield 52, 3) := by decide +kernel
theorem dX7_move_21 : decode cX7_move 21 = .ok (.iload_n 1, 1) := by decide +kernel
theorem dX7_move_22 : decode cX7_move 22 = .ok (.iaload, 1) := by decide +kernel
theorem dX7_move_23 : decode cX7_move 23 = .ok (.iastore, 1) := by decide +kernel
theorem dX7_move_24 : decode cX7_move 24 = .ok (.aload_n 0, 1) := by decide +kernel
theorem dX7_move_25 : decode cX7_move 25 = .ok (.getfield 55, 3) := by decide +kernel
theorem dX7_move_28 : decode cX7_move 28 = .ok (.iload_n 2, 1) := by decide +kernel
theorem dX7_move_29 : decode cX7_move 29 = .ok (.aload_n 0, 1) := by decide +kernel
theorem dX7_move_30 : decode cX7_move 30 = .ok (.getfield 55, 3) := by decide +kernel
theorem dX7_move_33 : decode cX7_move 33 = .ok (.iload_n 1, 1) := by decide +kernel
theorem dX7_move_34 : decode cX7_move 34 = .ok (.iaload, 1) := by decide +kernel
theorem dX7_move_35 : decode cX7_move 35 = .ok (.iastore, 1) := by decide +kernel
theorem dX7_move_36 : decode cX7_move 36 = .ok (.iconst 0, 1) := by decide +kernel
theorem dX7_move_37 : decode cX7_move 37 = .ok (.istore_n 3, 1) := by decide +kernel
theorem dX7_move_38 : decode cX7_move 38 = .ok (.iload_n 3, 1) := by decide +kernel
theorem dX7_move_39 : decode cX7_move 39 = .ok (.bipush 9, 2) := by decide +kernel
theorem dX7_move_41 : decode cX7_move 41 = .ok (.if_icmp .ge 81, 3) := by decide +kernel
theorem dX7_move_44 : decode cX7_move 44 = .ok (.aload_n 0, 1) := by decide +kernel
theorem dX7_move_45 : decode cX7_move 45 = .ok (.getfield 61, 3) := by decide +kernel
theorem dX7_move_48 : decode cX7_move 48 = .ok (.bipush 9, 2) := by decide +kernel
theorem dX7_move_50 : decode cX7_move 50 = .ok (.iload_n 2, 1) := by decide +kernel
theorem dX7_move_51 : decode cX7_move 51 = .ok (.imul, 1) := by decide +kernel
theorem dX7_move_52 : decode cX7_move 52 = .ok (.iload_n 3, 1) := by decide +kernel
theorem dX7_move_53 : decode cX7_move 53 = .ok (.iadd, 1) := by decide +kernel
theorem dX7_move_54 : decode cX7_move 54 = .ok (.aload_n 0, 1) := by decide +kernel
theorem dX7_move_55 : decode cX7_move 55 = .ok (.getfield 61, 3) := by decide +kernel
theorem dX7_move_58 : decode cX7_move 58 = .ok (.bipush 9, 2) := by decide +kernel
theorem dX7_move_60 : decode cX7_move 60 = .ok (.iload_n 1, 1) := by decide +kernel
theorem dX7_move_61 : decode cX7_move 61 = .ok (.imul, 1) := by decide +kernel
theorem dX7_move_62 : decode cX7_move 62 = .ok (.iload_n 3, 1) := by decide +kernel
theorem dX7_move_63 : decode cX7_move 63 = .ok (.iadd, 1) := by decide +kernel
theorem dX7_move_64 : decode cX7_move 64 = .ok (.iaload, 1) := by decide +kernel
theorem dX7_move_65 : decode cX7_move 65 = .ok (.iastore, 1) := by decide +kernel
theorem dX7_move_66 : decode cX7_move 66 = .ok (.iconst 0, 1) := by decide +kernel
theorem dX7_move_67 : decode cX7_move 67 = .ok (.istore 4, 2) := by decide +kernel
theorem dX7_move_69 : decode cX7_move 69 = .ok (.iload 4, 2) := by decide +kernel
theorem dX7_move_71 : decode cX7_move 71 = .ok (.bipush 60, 2) := by decide +kernel
theorem dX7_move_73 : decode cX7_move 73 = .ok (.if_icmp .ge 43, 3) := by decide +kernel
theorem dX7_move_76 : decode cX7_move 76 = .ok (.aload_n 0, 1) := by decide +kernel
theorem dX7_move_77 : decode cX7_move 77 = .ok (.getfield 58, 3) := by decide +kernel
theorem dX7_move_80 : decode cX7_move 80 = .ok (.bipush 9, 2) := by decide +kernel
theorem dX7_move_82 : decode cX7_move 82 = .ok (.iload_n 2, 1) := by decide +kernel
theorem dX7_move_83 : decode cX7_move 83 = .ok (.imul, 1) := by decide +kernel
theorem dX7_move_84 : decode cX7_move 84 = .ok (.iload_n 3, 1) := by decide +kernel
theorem dX7_move_85 : decode cX7_move 85 = .ok (.iadd, 1) := by decide +kernel
theorem dX7_move_86 : decode cX7_move 86 = .ok (.bipush 60, 2) := by decide +kernel
theorem dX7_move_88 : decode cX7_move 88 = .ok (.imul, 1) := by decide +kernel
theorem dX7_move_89 : decode cX7_move 89 = .ok (.iload 4, 2) := by decide +kernel
theorem dX7_move_91 : decode cX7_move 91 = .ok (.iadd, 1) := by decide +kernel
theorem dX7_move_92 : decode cX7_move 92 = .ok (.aload_n 0, 1) := by decide +kernel
theorem dX7_move_93 : decode cX7_move 93 = .ok (.getfield 58, 3) := by decide +kernel
theorem dX7_move_96 : decode cX7_move 96 = .ok (.bipush 9, 2) := by decide +kernel
theorem dX7_move_98 : decode cX7_move 98 = .ok (.iload_n 1, 1) := by decide +kernel
theorem dX7_move_99 : decode cX7_move 99 = .ok (.imul, 1) := by decide +kernel
theorem dX7_move_100 : decode cX7_move 100 = .ok (.iload_n 3, 1) := by decide +kernel
theorem dX7_move_101 : decode cX7_move 101 = .ok (.iadd, 1) := by decide +kernel
theorem dX7_move_102 : decode cX7_move 102 = .ok (.bipush 60, 2) := by decide +kernel
theorem dX7_move_104 : decode cX7_move 104 = .ok (.imul, 1) := by decide +kernel
theorem dX7_move_105 : decode cX7_move 105 = .ok (.iload 4, 2) := by decide +kernel
theorem dX7_move_107 : decode cX7_move 107 = .ok (.iadd, 1) := by decide +kernel
theorem dX7_move_108 : decode cX7_move 108 = .ok (.baload, 1) := by decide +kernel
theorem dX7_move_109 : decode cX7_move 109 = .ok (.bastore, 1) := by decide +kernel
theorem dX7_move_110 : decode cX7_move 110 = .ok (.iinc 4 1, 3) := by decide +kernel
theorem dX7_move_113 : decode cX7_move 113 = .ok (.goto (-44), 3) := by decide +kernel
theorem dX7_move_116 : decode cX7_move 116 = .ok (.iinc 3 1, 3) := by decide +kernel
theorem dX7_move_119 : decode cX7_move 119 = .ok (.goto (-81), 3) := by decide +kernel
theorem dX7_move_122 : decode cX7_move 122 = .ok (.return_, 1) := by decide +kernel
set_option maxRecDepth 20000 in
theorem ggX7_forget_X7_move : GoodIn wsX7_forget wsX7_move := goodIn_r _ [6, 7, 8, 9, 10, 11, 12, 13, 14, 15, 16, 17, 18, 19, 20, 21, 22, 23, 24, 25, 26, 27, 28, 29, 30, 31, 32, 33, 34, 35] (by decide +kernel) (by decide +kernel)
set_option maxRecDepth 20000 in
theorem gX7_forget_X7_move : GoodIn wsX7_forget (wsV RX7 97 RX7 yX7_move wsX7_move) := goodIn_app (goodIn_of _ (by decide +kernel)) ggX7_forget_X7_move
theorem dX7_forget_0 : decode cX7_forget 0 = .ok (.iload_n 1, 1) := by decide +kernel
theorem dX7_forget_1 : decode cX7_forget 1 = .ok (.iconst 1, 1) := by decide +kernel
theorem dX7_forget_2 : decode cX7_forget 2 = .ok (.iadd, 1) := by decide +kernel
theorem dX7_forget_3 : decode cX7_forget 3 = .ok (.istore_n 2, 1) := by decide +kernel
theorem dX7_forget_4 : decode cX7_forget 4 = .ok (.iload_n 2, 1) := by decide +kernel
theorem dX7_forget_5 : decode cX7_forget 5 = .ok (.aload_n 0, 1) := by decide +kernel
theorem dX7_forget_6 : decode cX7_forget 6 = .ok (.getfield 91, 3) := by decide +kernel
theorem dX7_forget_9 : decode cX7_forget 9 = .ok (.if_icmp .ge 17, 3) := by decide +kernel
theorem dX7_forget_12 : decode cX7_forget 12 = .ok (.aload_n 0, 1) := by decide +kernel
theorem dX7_forget_13 : decode cX7_forget 13 = .ok (.iload_n 2, 1) := by decide +kernel
theorem dX7_forget_14 : decode cX7_forget 14 = .ok (.iload_n 2, 1) := by decide +kernel
theorem dX7_forget_15 : decode cX7_forget 15 = .ok (.iconst 1, 1) := by decide +kernel
theorem dX7_forget_16 : decode cX7_forget 16 = .ok (.isub, 1) := by decide +kernel
theorem dX7_forget_17 : decode cX7_forget 17 = .ok (.invokevirtual 97, 3) := by decide +kernel
theorem dX7_forget_20 : decode cX7_forget 20 = .ok (.iinc 2 1, 3) := by decide +kernel
theorem dX7_forget_23 : decode cX7_forget 23 = .ok (.goto (-19), 3) := by decide +kernel
theorem dX7_forget_26 : decode cX7_forget 26 = .ok (.aload_n 0, 1) := by decide +kernel
theorem dX7_forget_27 : decode cX7_forget 27 = .ok (.dup, 1) := by decide +kernel
theorem dX7_forget_28 : decode cX7_forget 28 = .ok (.getfield 91, 3) := by decide +kernel
theorem dX7_forget_31 : decode cX7_forget 31 = .ok (.iconst 1, 1) := by decide +kernel
theorem dX7_forget_32 : decode cX7_forget 32 = .ok (.isub, 1) := by decide +kernel
theorem dX7_forget_33 : decode cX7_forget 33 = .ok (.putfield 91, 3) := by decide +kernel
theorem dX7_forget_36 : decode cX7_forget 36 = .ok (.return_, 1) := by decide +kernel
theorem dX7_isAlike_0 : decode cX7_isAlike 0 = .ok (.aload_n 0, 1) := by decide +kernel
theorem dX7_isAlike_1 : decode cX7_isAlike 1 = .ok (.getfield 49, 3) := by decide +kernel
theorem dX7_isAlike_4 : decode cX7_isAlike 4 = .ok (.iload_n 1, 1) := by decide +kernel
theorem dX7_isAlike_5 : decode cX7_isAlike 5 = .ok (.iaload, 1) := by decide +kernel
theorem dX7_isAlike_6 : decode cX7_isAlike 6 = .ok (.aload_n 0, 1) := by decide +kernel
theorem dX7_isAlike_7 : decode cX7_isAlike 7 = .ok (.getfield 49, 3) := by decide +kernel
theorem dX7_isAlike_10 : decode cX7_isAlike 10 = .ok (.iload_n 2, 1) := by decide +kernel
theorem dX7_isAlike_11 : decode cX7_isAlike 11 = .ok (.iaload, 1) := by decide +kernel
theorem dX7_isAlike_12 : decode cX7_isAlike 12 = .ok (.if_icmp .ne 7, 3) := by decide +kernel
theorem dX7_isAlike_15 : decode cX7_isAlike 15 = .ok (.iconst 1, 1) := by decide +kernel
theorem dX7_isAlike_16 : decode cX7_isAlike 16 = .ok (.goto 4, 3) := by decide +kernel
theorem dX7_isAlike_19 : decode cX7_isAlike 19 = .ok (.iconst 0, 1) := by decide +kernel
theorem dX7_isAlike_20 : decode cX7_isAlike 20 = .ok (.istore_n 3, 1) := by decide +kernel
theorem dX7_isAlike_21 : decode cX7_isAlike 21 = .ok (.iconst 1, 1) := by decide +kernel
theorem dX7_isAlike_22 : decode cX7_isAlike 22 = .ok (.istore 4, 2) := by decide +kernel
theorem dX7_isAlike_24 : decode cX7_isAlike 24 = .ok (.iload 4, 2) := by decide +kernel
theorem dX7_isAlike_26 : decode cX7_isAlike 26 = .ok (.iconst 3, 1) := by decide +kernel
theorem dX7_isAlike_27 : decode cX7_isAlike 27 = .ok (.if_icmp .ge 121, 3) := by decide +kernel
theorem dX7_isAlike_30 : decode cX7_isAlike 30 = .ok (.iload_n 3, 1) := by decide +kernel
theorem dX7_isAlike_31 : decode cX7_isAlike 31 = .ok (.ifCond .eq 34, 3) := by decide +kernel
theorem dX7_isAlike_34 : decode cX7_isAlike 34 = .ok (.aload_n 0, 1) := by decide +kernel
theorem dX7_isAlike_35 : decode cX7_isAlike 35 = .ok (.getfield 61, 3) := by decide +kernel
theorem dX7_isAlike_38 : decode cX7_isAlike 38 = .ok (.bipush 9, 2) := by decide +kernel
theorem dX7_isAlike_40 : decode cX7_isAlike 40 = .ok (.iload_n 1, 1) := by decide +kernel
theorem dX7_isAlike_41 : decode cX7_isAlike 41 = .ok (.imul, 1) := by decide +kernel
theorem dX7_isAlike_42 : decode cX7_isAlike 42 = .ok (.iload 4, 2) := by decide +kernel
theorem dX7_isAlike_44 : decode cX7_isAlike 44 = .ok (.iadd, 1) := by decide +kernel
theorem dX7_isAlike_45 : decode cX7_isAlike 45 = .ok (.iaload, 1) := by decide +kernel
theorem dX7_isAlike_46 : decode cX7_isAlike 46 = .ok (.aload_n 0, 1) := by decide +kernel
theorem dX7_isAlike_47 : decode cX7_isAlike 47 = .ok (.getfield 61, 3) := by decide +kernel
theorem dX7_isAlike_50 : decode cX7_isAlike 50 = .ok (.bipush 9, 2) := by decide +kernel
theorem dX7_isAlike_52 : decode cX7_isAlike 52 = .ok (.iload_n 2, 1) := by decide +kernel
theorem dX7_isAlike_53 : decode cX7_isAlike 53 = .ok (.imul, 1) := by decide +kernel
theorem dX7_isAlike_54 : decode cX7_isAlike 54 = .ok (.iload 4, 2) := by decide +kernel
theorem dX7_isAlike_56 : decode cX7_isAlike 56 = .ok (.iadd, 1) := by decide +kernel
theorem dX7_isAlike_57 : decode cX7_isAlike 57 = .ok (.iaload, 1) := by decide +kernel
theorem dX7_isAlike_58 : decode cX7_isAlike 58 = .ok (.if_icmp .ne 7, 3) := by decide +kernel
theorem dX7_isAlike_61 : decode cX7_isAlike 61 = .ok (.iconst 1, 1) := by decide +kernel
theorem dX7_isAlike_62 : decode cX7_isAlike 62 = .ok (.goto 4, 3) := by decide +kernel
theorem dX7_isAlike_65 : decode cX7_isAlike 65 = .ok (.iconst 0, 1) := by decide +kernel
theorem dX7_isAlike_66 : decode cX7_isAlike 66 = .ok (.istore_n 3, 1) := by decide +kernel
theorem dX7_isAlike_67 : decode cX7_isAlike 67 = .ok (.iconst 0, 1) := by decide +kernel
theorem dX7_isAlike_68 : decode cX7_isAlike 68 = .ok (.istore 5, 2) := by decide +kernel
theorem dX7_isAlike_70 : decode cX7_isAlike 70 = .ok (.iload_n 3, 1) := by decide +kernel
theorem dX7_isAlike_71 : decode cX7_isAlike 71 = .ok (.ifCond .eq 71, 3) := by decide +kernel
theorem dX7_isAlike_74 : decode cX7_isAlike 74 = .ok (.iload 5, 2) := by decide +kernel
theorem dX7_isAlike_76 : decode cX7_isAlike 76 = .ok (.aload_n 0, 1) := by decide +kernel
theorem dX7_isAlike_77 : decode cX7_isAlike 77 = .ok (.getfield 61, 3) := by decide +kernel
theorem dX7_isAlike_80 : decode cX7_isAlike 80 = .ok (.bipush 9, 2) := by decide +kernel
theorem dX7_isAlike_82 : decode cX7_isAlike 82 = .ok (.iload_n 1, 1) := by decide +kernel
theorem dX7_isAlike_83 : decode cX7_isAlike 83 = .ok (.imul, 1) := by decide +kernel
theorem dX7_isAlike_84 : decode cX7_isAlike 84 = .ok (.iload 4, 2) := by decide +kernel
theorem dX7_isAlike_86 : decode cX7_isAlike 86 = .ok (.iadd, 1) := by decide +kernel
theorem dX7_isAlike_87 : decode cX7_isAlike 87 = .ok (.iaload, 1) := by decide +kernel
theorem dX7_isAlike_88 : decode cX7_isAlike 88 = .ok (.if_icmp .ge 54, 3) := by decide +kernel
theorem dX7_isAlike_91 : decode cX7_isAlike 91 = .ok (.aload_n 0, 1) := by decide +kernel
theorem dX7_isAlike_92 : decode cX7_isAlike 92 = .ok (.getfield 58, 3) := by decide +kernel
theorem dX7_isAlike_95 : decode cX7_isAlike 95 = .ok (.bipush 9, 2) := by decide +kernel
theorem dX7_isAlike_97 : decode cX7_isAlike 97 = .ok (.iload_n 1, 1) := by decide +kernel
theorem dX7_isAlike_98 : decode cX7_isAlike 98 = .ok (.imul, 1) := by decide +kernel
theorem dX7_isAlike_99 : decode cX7_isAlike 99 = .ok (.iload 4, 2) := by decide +kernel
theorem dX7_isAlike_101 : decode cX7_isAlike 101 = .ok (.iadd, 1) := by decide +kernel
theorem dX7_isAlike_102 : decode cX7_isAlike 102 = .ok (.bipush 60, 2) := by decide +kernel
theorem dX7_isAlike_104 : decode cX7_isAlike 104 = .ok (.imul, 1) := by decide +kernel
theorem dX7_isAlike_105 : decode cX7_isAlike 105 = .ok (.iload 5, 2) := by decide +kernel
theorem dX7_isAlike_107 : decode cX7_isAlike 107 = .ok (.iadd, 1) := by decide +kernel
theorem dX7_isAlike_108 : decode cX7_isAlike 108 = .ok (.baload, 1) := by decide +kernel
theorem dX7_isAlike_109 : decode cX7_isAlike 109 = .ok (.aload_n 0, 1) := by decide +kernel
theorem dX7_isAlike_110 : decode cX7_isAlike 110 = .ok (.getfield 58, 3) := by decide +kernel
theorem dX7_isAlike_113 : decode cX7_isAlike 113 = .ok (.bipush 9, 2) := by decide +kernel
theorem dX7_isAlike_115 : decode cX7_isAlike 115 = .ok (.iload_n 2, 1) := by decide +kernel
theorem dX7_isAlike_116 : decode cX7_isAlike 116 = .ok (.imul, 1) := by decide +kernel
theorem dX7_isAlike_117 : decode cX7_isAlike 117 = .ok (.iload 4, 2) := by decide +kernel
theorem dX7_isAlike_119 : decode cX7_isAlike 119 = .ok (.iadd, 1) := by decide +kernel
theorem dX7_isAlike_120 : decode cX7_isAlike 120 = .ok (.bipush 60, 2) := by decide +kernel
theorem dX7_isAlike_122 : decode cX7_isAlike 122 = .ok (.imul, 1) := by decide +kernel
theorem dX7_isAlike_123 : decode cX7_isAlike 123 = .ok (.iload 5, 2) := by decide +kernel
theorem dX7_isAlike_125 : decode cX7_isAlike 125 = .ok (.iadd, 1) := by decide +kernel
theorem dX7_isAlike_126 : decode cX7_isAlike 126 = .ok (.baload, 1) := by decide +kernel
theorem dX7_isAlike_127 : decode cX7_isAlike 127 = .ok (.if_icmp .ne 7, 3) := by decide +kernel
theorem dX7_isAlike_130 : decode cX7_isAlike 130 = .ok (.iconst 1, 1) := by decide +kernel
theorem dX7_isAlike_131 : decode cX7_isAlike 131 = .ok (.goto 4, 3) := by decide +kernel
theorem dX7_isAlike_134 : decode cX7_isAlike 134 = .ok (.iconst 0, 1) := by decide +kernel
theorem dX7_isAlike_135 : decode cX7_isAlike 135 = .ok (.istore_n 3, 1) := by decide +kernel
theorem dX7_isAlike_136 : decode cX7_isAlike 136 = .ok (.iinc 5 1, 3) := by decide +kernel
theorem dX7_isAlike_139 : decode cX7_isAlike 139 = .ok (.goto (-69), 3) := by decide +kernel
theorem dX7_isAlike_142 : decode cX7_isAlike 142 = .ok (.iinc 4 1, 3) := by decide +kernel
theorem dX7_isAlike_145 : decode cX7_isAlike 145 = .ok (.goto (-121), 3) := by decide +kernel
theorem dX7_isAlike_148 : decode cX7_isAlike 148 = .ok (.iload_n 3, 1) := by decide +kernel
theorem dX7_isAlike_149 : decode cX7_isAlike 149 = .ok (.ireturn, 1) := by decide +kernel
set_option maxRecDepth 20000 in
theorem ggX7_parse_X7_isMore : GoodIn wsX7_parse wsX7_isMore := goodIn_r _ [9] (by decide +kernel) (by decide +kernel)
set_option maxRecDepth 20000 in
theorem gX7_parse_X7_isMore : GoodIn wsX7_parse (va_wsS RX7 73 yX7_isMore wsX7_isMore) := goodIn_app (goodIn_of _ (by decide +kernel)) ggX7_parse_X7_isMore
theorem dX7_parse_0 : decode cX7_parse 0 = .ok (.iconst 0, 1) := by decide +kernel
theorem dX7_parse_1 : decode cX7_parse 1 = .ok (.istore_n 1, 1) := by decide +kernel
theorem dX7_parse_2 : decode cX7_parse 2 = .ok (.iload_n 1, 1) := by decide +kernel
theorem dX7_parse_3 : decode cX7_parse 3 = .ok (.bipush 9, 2) := by decide +kernel
theorem dX7_parse_5 : decode cX7_parse 5 = .ok (.if_icmp .ge 19, 3) := by decide +kernel
theorem dX7_parse_8 : decode cX7_parse 8 = .ok (.aload_n 0, 1) := by decide +kernel
theorem dX7_parse_9 : decode cX7_parse 9 = .ok (.getfield 61, 3) := by decide +kernel
theorem dX7_parse_12 : decode cX7_parse 12 = .ok (.bipush 108, 2) := by decide +kernel
theorem dX7_parse_14 : decode cX7_parse 14 = .ok (.iload_n 1, 1) := by decide +kernel
theorem dX7_parse_15 : decode cX7_parse 15 = .ok (.iadd, 1) := by decide +kernel
theorem dX7_parse_16 : decode cX7_parse 16 = .ok (.iconst (-1), 1) := by decide +kernel
theorem dX7_parse_17 : decode cX7_parse 17 = .ok (.iastore, 1) := by decide +kernel
theorem dX7_parse_18 : decode cX7_parse 18 = .ok (.iinc 1 1, 3) := by decide +kernel
theorem dX7_parse_21 : decode cX7_parse 21 = .ok (.goto (-19), 3) := by decide +kernel
theorem dX7_parse_24 : decode cX7_parse 24 = .ok (.iconst 0, 1) := by decide +kernel
theorem dX7_parse_25 : decode cX7_parse 25 = .ok (.istore_n 1, 1) := by decide +kernel
theorem dX7_parse_26 : decode cX7_parse 26 = .ok (.iconst 0, 1) := by decide +kernel
theorem dX7_parse_27 : decode cX7_parse 27 = .ok (.istore_n 2, 1) := by decide +kernel
theorem dX7_parse_28 : decode cX7_parse 28 = .ok (.iload_n 1, 1) := by decide +kernel
theorem dX7_parse_29 : decode cX7_parse 29 = .ok (.iconst 2, 1) := by decide +kernel
theorem dX7_parse_30 : decode cX7_parse 30 = .ok (.iadd, 1) := by decide +kernel
theorem dX7_parse_31 : decode cX7_parse 31 = .ok (.aload_n 0, 1) := by decide +kernel
theorem dX7_parse_32 : decode cX7_parse 32 = .ok (.getfield 70, 3) := by decide +kernel
theorem dX7_parse_35 : decode cX7_parse 35 = .ok (.if_icmp .le 5, 3) := by decide +kernel
theorem dX7_parse_38 : decode cX7_parse 38 = .ok (.iconst 1, 1) := by decide +kernel
theorem dX7_parse_39 : decode cX7_parse 39 = .ok (.ireturn, 1) := by decide +kernel
theorem dX7_parse_40 : decode cX7_parse 40 = .ok (.aload_n 0, 1) := by decide +kernel
theorem dX7_parse_41 : decode cX7_parse 41 = .ok (.getfield 7, 3) := by decide +kernel
theorem dX7_parse_44 : decode cX7_parse 44 = .ok (.iload_n 1, 1) := by decide +kernel
theorem dX7_parse_45 : decode cX7_parse 45 = .ok (.baload, 1) := by decide +kernel
theorem dX7_parse_46 : decode cX7_parse 46 = .ok (.iconst 1, 1) := by decide +kernel
theorem dX7_parse_47 : decode cX7_parse 47 = .ok (.ishr, 1) := by decide +kernel
theorem dX7_parse_48 : decode cX7_parse 48 = .ok (.bipush 127, 2) := by decide +kernel
theorem dX7_parse_50 : decode cX7_parse 50 = .ok (.iand, 1) := by decide +kernel
theorem dX7_parse_51 : decode cX7_parse 51 = .ok (.istore_n 3, 1) := by decide +kernel
theorem dX7_parse_52 : decode cX7_parse 52 = .ok (.aload_n 0, 1) := by decide +kernel
theorem dX7_parse_53 : decode cX7_parse 53 = .ok (.getfield 7, 3) := by decide +kernel
theorem dX7_parse_56 : decode cX7_parse 56 = .ok (.iload_n 1, 1) := by decide +kernel
theorem dX7_parse_57 : decode cX7_parse 57 = .ok (.baload, 1) := by decide +kernel
theorem dX7_parse_58 : decode cX7_parse 58 = .ok (.iconst 1, 1) := by decide +kernel
theorem dX7_parse_59 : decode cX7_parse 59 = .ok (.iand, 1) := by decide +kernel
theorem dX7_parse_60 : decode cX7_parse 60 = .ok (.bipush 8, 2) := by decide +kernel
theorem dX7_parse_62 : decode cX7_parse 62 = .ok (.ishl, 1) := by decide +kernel
theorem dX7_parse_63 : decode cX7_parse 63 = .ok (.aload_n 0, 1) := by decide +kernel
theorem dX7_parse_64 : decode cX7_parse 64 = .ok (.getfield 7, 3) := by decide +kernel
theorem dX7_parse_67 : decode cX7_parse 67 = .ok (.iload_n 1, 1) := by decide +kernel
theorem dX7_parse_68 : decode cX7_parse 68 = .ok (.iconst 1, 1) := by decide +kernel
theorem dX7_parse_69 : decode cX7_parse 69 = .ok (.iadd, 1) := by decide +kernel
theorem dX7_parse_70 : decode cX7_parse 70 = .ok (.baload, 1) := by decide +kernel
theorem dX7_parse_71 : decode cX7_parse 71 = .ok (.sipush 255, 3) := by decide +kernel
theorem dX7_parse_74 : decode cX7_parse 74 = .ok (.iand, 1) := by decide +kernel
theorem dX7_parse_75 : decode cX7_parse 75 = .ok (.ior, 1) := by decide +kernel
theorem dX7_parse_76 : decode cX7_parse 76 = .ok (.istore 4, 2) := by decide +kernel
theorem dX7_parse_78 : decode cX7_parse 78 = .ok (.iinc 1 2, 3) := by decide +kernel
theorem dX7_parse_81 : decode cX7_parse 81 = .ok (.iload_n 2, 1) := by decide +kernel
theorem dX7_parse_82 : decode cX7_parse 82 = .ok (.iconst 3, 1) := by decide +kernel
theorem dX7_parse_83 : decode cX7_parse 83 = .ok (.if_icmp .ge 13, 3) := by decide +kernel
theorem dX7_parse_86 : decode cX7_parse 86 = .ok (.iload_n 3, 1) := by decide +kernel
theorem dX7_parse_87 : decode cX7_parse 87 = .ok (.iload_n 2, 1) := by decide +kernel
theorem dX7_parse_88 : decode cX7_parse 88 = .ok (.iconst 1, 1) := by decide +kernel
theorem dX7_parse_89 : decode cX7_parse 89 = .ok (.iadd, 1) := by decide +kernel
theorem dX7_parse_90 : decode cX7_parse 90 = .ok (.if_icmp .eq 18, 3) := by decide +kernel
theorem dX7_parse_93 : decode cX7_parse 93 = .ok (.goto 13, 3) := by decide +kernel
theorem dX7_parse_96 : decode cX7_parse 96 = .ok (.iload_n 3, 1) := by decide +kernel
theorem dX7_parse_97 : decode cX7_parse 97 = .ok (.iconst 1, 1) := by decide +kernel
theorem dX7_parse_98 : decode cX7_parse 98 = .ok (.if_icmp .lt 10, 3) := by decide +kernel
theorem dX7_parse_101 : decode cX7_parse 101 = .ok (.iload_n 3, 1) := by decide +kernel
theorem dX7_parse_102 : decode cX7_parse 102 = .ok (.iconst 3, 1) := by decide +kernel
theorem dX7_parse_103 : decode cX7_parse 103 = .ok (.if_icmp .gt 5, 3) := by decide +kernel
theorem dX7_parse_106 : decode cX7_parse 106 = .ok (.iconst 2, 1) := by decide +kernel
theorem dX7_parse_107 : decode cX7_parse 107 = .ok (.ireturn, 1) := by decide +kernel
theorem dX7_parse_108 : decode cX7_parse 108 = .ok (.iload_n 3, 1) := by decide +kernel
theorem dX7_parse_109 : decode cX7_parse 109 = .ok (.ifCond .ne 16, 3) := by decide +kernel
theorem dX7_parse_112 : decode cX7_parse 112 = .ok (.iload 4, 2) := by decide +kernel
theorem dX7_parse_114 : decode cX7_parse 114 = .ok (.ifCond .ne 7, 3) := by decide +kernel
theorem dX7_parse_117 : decode cX7_parse 117 = .ok (.iconst 1, 1) := by decide +kernel
theorem dX7_parse_118 : decode cX7_parse 118 = .ok (.goto 70, 3) := by decide +kernel
theorem dX7_parse_121 : decode cX7_parse 121 = .ok (.iconst 0, 1) := by decide +kernel
theorem dX7_parse_122 : decode cX7_parse 122 = .ok (.goto 66, 3) := by decide +kernel
theorem dX7_parse_125 : decode cX7_parse 125 = .ok (.iload_n 3, 1) := by decide +kernel
theorem dX7_parse_126 : decode cX7_parse 126 = .ok (.iconst 3, 1) := by decide +kernel
theorem dX7_parse_127 : decode cX7_parse 127 = .ok (.if_icmp .ge 24, 3) := by decide +kernel
theorem dX7_parse_130 : decode cX7_parse 130 = .ok (.iload 4, 2) := by decide +kernel
theorem dX7_parse_132 : decode cX7_parse 132 = .ok (.iconst 2, 1) := by decide +kernel
theorem dX7_parse_133 : decode cX7_parse 133 = .ok (.if_icmp .lt 14, 3) := by decide +kernel
theorem dX7_parse_136 : decode cX7_parse 136 = .ok (.iload 4, 2) := by decide +kernel
theorem dX7_parse_138 : decode cX7_parse 138 = .ok (.bipush 60, 2) := by decide +kernel
theorem dX7_parse_140 : decode cX7_parse 140 = .ok (.if_icmp .gt 7, 3) := by decide +kernel
theorem dX7_parse_143 : decode cX7_parse 143 = .ok (.iconst 1, 1) := by decide +kernel
theorem dX7_parse_144 : decode cX7_parse 144 = .ok (.goto 44, 3) := by decide +kernel
theorem dX7_parse_147 : decode cX7_parse 147 = .ok (.iconst 0, 1) := by decide +kernel
theorem dX7_parse_148 : decode cX7_parse 148 = .ok (.goto 40, 3) := by decide +kernel
theorem dX7_parse_151 : decode cX7_parse 151 = .ok (.iload_n 3, 1) := by decide +kernel
theorem dX7_parse_152 : decode cX7_parse 152 = .ok (.iconst 3, 1) := by decide +kernel
theorem dX7_parse_153 : decode cX7_parse 153 = .ok (.if_icmp .ne 17, 3) := by decide +kernel
theorem dX7_parse_156 : decode cX7_parse 156 = .ok (.iload 4, 2) := by decide +kernel
theorem dX7_parse_158 : decode cX7_parse 158 = .ok (.iconst 2, 1) := by decide +kernel
theorem dX7_parse_159 : decode cX7_parse 159 = .ok (.if_icmp .lt 7, 3) := by decide +kernel
theorem dX7_parse_162 : decode cX7_parse 162 = .ok (.iconst 1, 1) := by decide +kernel
theorem dX7_parse_163 : decode cX7_parse 163 = .ok (.goto 25, 3) := by decide +kernel
theorem dX7_parse_166 : decode cX7_parse 166 = .ok (.iconst 0, 1) := by decide +kernel
theorem dX7_parse_167 : decode cX7_parse 167 = .ok (.goto 21, 3) := by decide +kernel
theorem dX7_parse_170 : decode cX7_parse 170 = .ok (.iload_n 3, 1) := by decide +kernel
theorem dX7_parse_171 : decode cX7_parse 171 = .ok (.bipush 8, 2) := by decide +kernel
theorem dX7_parse_173 : decode cX7_parse 173 = .ok (.if_icmp .gt 10, 3) := by decide +kernel
theorem dX7_parse_176 : decode cX7_parse 176 = .ok (.iload 4, 2) := by decide +kernel
theorem dX7_parse_178 : decode cX7_parse 178 = .ok (.bipush 60, 2) := by decide +kernel
theorem dX7_parse_180 : decode cX7_parse 180 = .ok (.if_icmp .gt 7, 3) := by decide +kernel
theorem dX7_parse_183 : decode cX7_parse 183 = .ok (.iconst 1, 1) := by decide +kernel
theorem dX7_parse_184 : decode cX7_parse 184 = .ok (.goto 4, 3) := by decide +kernel
theorem dX7_parse_187 : decode cX7_parse 187 = .ok (.iconst 0, 1) := by decide +kernel
theorem dX7_parse_188 : decode cX7_parse 188 = .ok (.istore 5, 2) := by decide +kernel
theorem dX7_parse_190 : decode cX7_parse 190 = .ok (.iload 5, 2) := by decide +kernel
theorem dX7_parse_192 : decode cX7_parse 192 = .ok (.ifCond .ne 5, 3) := by decide +kernel
theorem dX7_parse_195 : decode cX7_parse 195 = .ok (.iconst 3, 1) := by decide +kernel
theorem dX7_parse_196 : decode cX7_parse 196 = .ok (.ireturn, 1) := by decide +kernel
theorem dX7_parse_197 : decode cX7_parse 197 = .ok (.iload_n 3, 1) := by decide +kernel
theorem dX7_parse_198 : decode cX7_parse 198 = .ok (.invokestatic 73, 3) := by decide +kernel
theorem dX7_parse_201 : decode cX7_parse 201 = .ok (.ifCond .eq 18, 3) := by decide +kernel
theorem dX7_parse_204 : decode cX7_parse 204 = .ok (.aload_n 0, 1) := by decide +kernel
theorem dX7_parse_205 : decode cX7_parse 205 = .ok (.getfield 61, 3) := by decide +kernel
theorem dX7_parse_208 : decode cX7_parse 208 = .ok (.bipush 108, 2) := by decide +kernel
theorem dX7_parse_210 : decode cX7_parse 210 = .ok (.iload_n 3, 1) := by decide +kernel
theorem dX7_parse_211 : decode cX7_parse 211 = .ok (.iadd, 1) := by decide +kernel
theorem dX7_parse_212 : decode cX7_parse 212 = .ok (.iaload, 1) := by decide +kernel
theorem dX7_parse_213 : decode cX7_parse 213 = .ok (.iconst (-1), 1) := by decide +kernel
theorem dX7_parse_214 : decode cX7_parse 214 = .ok (.if_icmp .eq 5, 3) := by decide +kernel
theorem dX7_parse_217 : decode cX7_parse 217 = .ok (.iconst 4, 1) := by decide +kernel
theorem dX7_parse_218 : decode cX7_parse 218 = .ok (.ireturn, 1) := by decide +kernel
theorem dX7_parse_219 : decode cX7_parse 219 = .ok (.iload_n 1, 1) := by decide +kernel
theorem dX7_parse_220 : decode cX7_parse 220 = .ok (.iload 4, 2) := by decide +kernel
theorem dX7_parse_222 : decode cX7_parse 222 = .ok (.iadd, 1) := by decide +kernel
theorem dX7_parse_223 : decode cX7_parse 223 = .ok (.aload_n 0, 1) := by decide +kernel
theorem dX7_parse_224 : decode cX7_parse 224 = .ok (.getfield 70, 3) := by decide +kernel
theorem dX7_parse_227 : decode cX7_parse 227 = .ok (.if_icmp .le 5, 3) := by decide +kernel
theorem dX7_parse_230 : decode cX7_parse 230 = .ok (.iconst 1, 1) := by decide +kernel
theorem dX7_parse_231 : decode cX7_parse 231 = .ok (.ireturn, 1) := by decide +kernel
theorem dX7_parse_232 : decode cX7_parse 232 = .ok (.iload_n 3, 1) := by decide +kernel
theorem dX7_parse_233 : decode cX7_parse 233 = .ok (.ifCond .ne 5, 3) := by decide +kernel
theorem dX7_parse_236 : decode cX7_parse 236 = .ok (.iconst 0, 1) := by decide +kernel
theorem dX7_parse_237 : decode cX7_parse 237 = .ok (.ireturn, 1) := by decide +kernel
theorem dX7_parse_238 : decode cX7_parse 238 = .ok (.iload_n 3, 1) := by decide +kernel
theorem dX7_parse_239 : decode cX7_parse 239 = .ok (.iconst 3, 1) := by decide +kernel
theorem dX7_parse_240 : decode cX7_parse 240 = .ok (.if_icmp .ne 39, 3) := by decide +kernel
theorem dX7_parse_243 : decode cX7_parse 243 = .ok (.aload_n 0, 1) := by decide +kernel
theorem dX7_parse_244 : decode cX7_parse 244 = .ok (.getfield 52, 3) := by decide +kernel
theorem dX7_parse_247 : decode cX7_parse 247 = .ok (.bipush 12, 2) := by decide +kernel
theorem dX7_parse_249 : decode cX7_parse 249 = .ok (.aload_n 0, 1) := by decide +kernel
theorem dX7_parse_250 : decode cX7_parse 250 = .ok (.getfield 7, 3) := by decide +kernel
theorem dX7_parse_253 : decode cX7_parse 253 = .ok (.iload_n 1, 1) := by decide +kernel
theorem dX7_parse_254 : decode cX7_parse 254 = .ok (.baload, 1) := by decide +kernel
theorem dX7_parse_255 : decode cX7_parse 255 = .ok (.sipush 255, 3) := by decide +kernel
theorem dX7_parse_258 : decode cX7_parse 258 = .ok (.iand, 1) := by decide +kernel
theorem dX7_parse_259 : decode cX7_parse 259 = .ok (.bipush 8, 2) := by decide +kernel
theorem dX7_parse_261 : decode cX7_parse 261 = .ok (.ishl, 1) := by decide +kernel
theorem dX7_parse_262 : decode cX7_parse 262 = .ok (.aload_n 0, 1) := by decide +kernel
theorem dX7_parse_263 : decode cX7_parse 263 = .ok (.getfield 7, 3) := by decide +kernel
theorem dX7_parse_266 : decode cX7_parse 266 = .ok (.iload_n 1, 1) := by decide +kernel
theorem dX7_parse_267 : decode cX7_parse 267 = .ok (.iconst 1, 1) := by decide +kernel
theorem dX7_parse_268 : decode cX7_parse 268 = .ok (.iadd, 1) := by decide +kernel
theorem dX7_parse_269 : decode cX7_parse 269 = .ok (.baload, 1) := by decide +kernel
theorem dX7_parse_270 : decode cX7_parse 270 = .ok (.sipush 255, 3) := by decide +kernel
theorem dX7_parse_273 : decode cX7_parse 273 = .ok (.iand, 1) := by decide +kernel
theorem dX7_parse_274 : decode cX7_parse 274 = .ok (.ior, 1) := by decide +kernel
theorem dX7_parse_275 : decode cX7_parse 275 = .ok (.iastore, 1) := by decide +kernel
theorem dX7_parse_276 : decode cX7_parse 276 = .ok (.goto 60, 3) := by decide +kernel
theorem dX7_parse_279 : decode cX7_parse 279 = .ok (.iload_n 3, 1) := by decide +kernel
theorem dX7_parse_280 : decode cX7_parse 280 = .ok (.bipush 9, 2) := by decide +kernel
theorem dX7_parse_282 : decode cX7_parse 282 = .ok (.if_icmp .ge 54, 3) := by decide +kernel
theorem dX7_parse_285 : decode cX7_parse 285 = .ok (.aload_n 0, 1) := by decide +kernel
theorem dX7_parse_286 : decode cX7_parse 286 = .ok (.getfield 61, 3) := by decide +kernel
theorem dX7_parse_289 : decode cX7_parse 289 = .ok (.bipush 108, 2) := by decide +kernel
theorem dX7_parse_291 : decode cX7_parse 291 = .ok (.iload_n 3, 1) := by decide +kernel
theorem dX7_parse_292 : decode cX7_parse 292 = .ok (.iadd, 1) := by decide +kernel
theorem dX7_parse_293 : decode cX7_parse 293 = .ok (.iload 4, 2) := by decide +kernel
theorem dX7_parse_295 : decode cX7_parse 295 = .ok (.iastore, 1) := by decide +kernel
theorem dX7_parse_296 : decode cX7_parse 296 = .ok (.iconst 0, 1) := by decide +kernel
theorem dX7_parse_297 : decode cX7_parse 297 = .ok (.istore 6, 2) := by decide +kernel
theorem dX7_parse_299 : decode cX7_parse 299 = .ok (.iload 6, 2) := by decide +kernel
theorem dX7_parse_301 : decode cX7_parse 301 = .ok (.iload 4, 2) := by decide +kernel
theorem dX7_parse_303 : decode cX7_parse 303 = .ok (.if_icmp .ge 33, 3) := by decide +kernel
theorem dX7_parse_306 : decode cX7_parse 306 = .ok (.aload_n 0, 1) := by decide +kernel
theorem dX7_parse_307 : decode cX7_parse 307 = .ok (.getfield 58, 3) := by decide +kernel
theorem dX7_parse_310 : decode cX7_parse 310 = .ok (.bipush 108, 2) := by decide +kernel
theorem dX7_parse_312 : decode cX7_parse 312 = .ok (.iload_n 3, 1) := by decide +kernel
theorem dX7_parse_313 : decode cX7_parse 313 = .ok (.iadd, 1) := by decide +kernel
theorem dX7_parse_314 : decode cX7_parse 314 = .ok (.bipush 60, 2) := by decide +kernel
theorem dX7_parse_316 : decode cX7_parse 316 = .ok (.imul, 1) := by decide +kernel
theorem dX7_parse_317 : decode cX7_parse 317 = .ok (.iload 6, 2) := by decide +kernel
theorem dX7_parse_319 : decode cX7_parse 319 = .ok (.iadd, 1) := by decide +kernel
theorem dX7_parse_320 : decode cX7_parse 320 = .ok (.aload_n 0, 1) := by decide +kernel
theorem dX7_parse_321 : decode cX7_parse 321 = .ok (.getfield 7, 3) := by decide +kernel
theorem dX7_parse_324 : decode cX7_parse 324 = .ok (.iload_n 1, 1) := by decide +kernel
theorem dX7_parse_325 : decode cX7_parse 325 = .ok (.iload 6, 2) := by decide +kernel
theorem dX7_parse_327 : decode cX7_parse 327 = .ok (.iadd, 1) := by decide +kernel
theorem dX7_parse_328 : decode cX7_parse 328 = .ok (.baload, 1) := by decide +kernel
theorem dX7_parse_329 : decode cX7_parse 329 = .ok (.bastore, 1) := by decide +kernel
theorem dX7_parse_330 : decode cX7_parse 330 = .ok (.iinc 6 1, 3) := by decide +kernel
theorem dX7_parse_333 : decode cX7_parse 333 = .ok (.goto (-34), 3) := by decide +kernel
theorem dX7_parse_336 : decode cX7_parse 336 = .ok (.iload_n 1, 1) := by decide +kernel
theorem dX7_parse_337 : decode cX7_parse 337 = .ok (.iload 4, 2) := by decide +kernel
theorem dX7_parse_339 : decode cX7_parse 339 = .ok (.iadd, 1) := by decide +kernel
theorem dX7_parse_340 : decode cX7_parse 340 = .ok (.istore_n 1, 1) := by decide +kernel
theorem dX7_parse_341 : decode cX7_parse 341 = .ok (.iinc 2 1, 3) := by decide +kernel
theorem dX7_parse_344 : decode cX7_parse 344 = .ok (.goto (-316), 3) := by decide +kernel
set_option maxRecDepth 20000 in
theorem ggX7_heard_X7_parse : GoodIn wsX7_heard wsX7_parse := goodIn_r _ [12, 13, 14, 15, 3, 16, 17, 18, 11, 19, 32, 33, 34, 35, 36, 37, 38, 39, 40, 41, 42, 43, 44, 45, 46, 47, 48, 49, 50, 51, 52, 53, 54, 55] (by decide +kernel) (by decide +kernel)
set_option maxRecDepth 20000 in
theorem gX7_heard_X7_parse : GoodIn wsX7_heard (wsV RX7 100 RX7 yX7_parse wsX7_parse) := goodIn_app (goodIn_of _ (by decide +kernel)) ggX7_heard_X7_parse
set_option maxRecDepth 20000 in
theorem ggX7_heard_X7_isAlike : GoodIn wsX7_heard wsX7_isAlike := goodIn_r _ [23, 1, 13, 16, 32, 33, 34, 35, 36, 37, 38, 39, 40, 41, 42, 43, 44, 45, 46, 47, 48, 49, 50, 51, 52, 53, 54, 55] (by decide +kernel) (by decide +kernel)
set_option maxRecDepth 20000 in
theorem gX7_heard_X7_isAlike : GoodIn wsX7_heard (wsV RX7 104 RX7 yX7_isAlike wsX7_isAlike) := goodIn_app (goodIn_of _ (by decide +kernel)) ggX7_heard_X7_isAlike
set_option maxRecDepth 20000 in
theorem ggX7_heard_X7_forget : GoodIn wsX7_heard wsX7_forget := goodIn_r _ [27, 2, 28, 29, 30, 11, 31, 1, 3, 4, 13, 16, 32, 33, 34, 35, 36, 37, 38, 39, 40, 41, 42, 43, 44, 45, 46, 47, 48, 49, 50, 51, 52, 53, 54, 55] (by decide +kernel) (by decide +kernel)
set_option maxRecDepth 20000 in
theorem gX7_heard_X7_forget : GoodIn wsX7_heard (wsV RX7 94 RX7 yX7_forget wsX7_forget) := goodIn_app (goodIn_of _ (by decide +kernel)) ggX7_heard_X7_forget
set_option maxRecDepth 20000 in
theorem ggX7_heard_X7_move : GoodIn wsX7_heard wsX7_move := goodIn_r _ [31, 1, 3, 4, 13, 16, 32, 33, 34, 35, 36, 37, 38, 39, 40, 41, 42, 43, 44, 45, 46, 47, 48, 49, 50, 51, 52, 53, 54, 55] (by decide +kernel) (by decide +kernel)
set_option maxRecDepth 20000 in
theorem gX7_heard_X7_move : GoodIn wsX7_heard (wsV RX7 97 RX7 yX7_move wsX7_move) := goodIn_app (goodIn_of _ (by decide +kernel)) ggX7_heard_X7_move
theorem dX7_heard_0 : decode cX7_heard 0 = .ok (.aload_n 0, 1) := by decide +kernel
theorem dX7_heard_1 : decode cX7_heard 1 = .ok (.invokevirtual 100, 3) := by decide +kernel
theorem dX7_heard_4 : decode cX7_heard 4 = .ok (.istore_n 2, 1) := by decide +kernel
theorem dX7_heard_5 : decode cX7_heard 5 = .ok (.iload_n 2, 1) := by decide +kernel
theorem dX7_heard_6 : decode cX7_heard 6 = .ok (.ifCond .le 5, 3) := by decide +kernel
theorem dX7_heard_9 : decode cX7_heard 9 = .ok (.iload_n 2, 1) := by decide +kernel
theorem dX7_heard_10 : decode cX7_heard 10 = .ok (.ireturn, 1) := by decide +kernel
theorem dX7_heard_11 : decode cX7_heard 11 = .ok (.aload_n 0, 1) := by decide +kernel
theorem dX7_heard_12 : decode cX7_heard 12 = .ok (.getfield 49, 3) := by decide +kernel
theorem dX7_heard_15 : decode cX7_heard 15 = .ok (.bipush 12, 2) := by decide +kernel
theorem dX7_heard_17 : decode cX7_heard 17 = .ok (.iload_n 1, 1) := by decide +kernel
theorem dX7_heard_18 : decode cX7_heard 18 = .ok (.iastore, 1) := by decide +kernel
theorem dX7_heard_19 : decode cX7_heard 19 = .ok (.iconst (-1), 1) := by decide +kernel
theorem dX7_heard_20 : decode cX7_heard 20 = .ok (.istore_n 3, 1) := by decide +kernel
theorem dX7_heard_21 : decode cX7_heard 21 = .ok (.iconst 0, 1) := by decide +kernel
theorem dX7_heard_22 : decode cX7_heard 22 = .ok (.istore 4, 2) := by decide +kernel
theorem dX7_heard_24 : decode cX7_heard 24 = .ok (.iload 4, 2) := by decide +kernel
theorem dX7_heard_26 : decode cX7_heard 26 = .ok (.aload_n 0, 1) := by decide +kernel
theorem dX7_heard_27 : decode cX7_heard 27 = .ok (.getfield 91, 3) := by decide +kernel
theorem dX7_heard_30 : decode cX7_heard 30 = .ok (.if_icmp .ge 23, 3) := by decide +kernel
theorem dX7_heard_33 : decode cX7_heard 33 = .ok (.aload_n 0, 1) := by decide +kernel
theorem dX7_heard_34 : decode cX7_heard 34 = .ok (.iload 4, 2) := by decide +kernel
theorem dX7_heard_36 : decode cX7_heard 36 = .ok (.bipush 12, 2) := by decide +kernel
theorem dX7_heard_38 : decode cX7_heard 38 = .ok (.invokevirtual 104, 3) := by decide +kernel
theorem dX7_heard_41 : decode cX7_heard 41 = .ok (.ifCond .eq 6, 3) := by decide +kernel
theorem dX7_heard_44 : decode cX7_heard 44 = .ok (.iload 4, 2) := by decide +kernel
theorem dX7_heard_46 : decode cX7_heard 46 = .ok (.istore_n 3, 1) := by decide +kernel
theorem dX7_heard_47 : decode cX7_heard 47 = .ok (.iinc 4 1, 3) := by decide +kernel
theorem dX7_heard_50 : decode cX7_heard 50 = .ok (.goto (-26), 3) := by decide +kernel
theorem dX7_heard_53 : decode cX7_heard 53 = .ok (.aload_n 0, 1) := by decide +kernel
theorem dX7_heard_54 : decode cX7_heard 54 = .ok (.getfield 52, 3) := by decide +kernel
theorem dX7_heard_57 : decode cX7_heard 57 = .ok (.bipush 12, 2) := by decide +kernel
theorem dX7_heard_59 : decode cX7_heard 59 = .ok (.iaload, 1) := by decide +kernel
theorem dX7_heard_60 : decode cX7_heard 60 = .ok (.ifCond .ne 15, 3) := by decide +kernel
theorem dX7_heard_63 : decode cX7_heard 63 = .ok (.iload_n 3, 1) := by decide +kernel
theorem dX7_heard_64 : decode cX7_heard 64 = .ok (.iconst (-1), 1) := by decide +kernel
theorem dX7_heard_65 : decode cX7_heard 65 = .ok (.if_icmp .eq 8, 3) := by decide +kernel
theorem dX7_heard_68 : decode cX7_heard 68 = .ok (.aload_n 0, 1) := by decide +kernel
theorem dX7_heard_69 : decode cX7_heard 69 = .ok (.iload_n 3, 1) := by decide +kernel
theorem dX7_heard_70 : decode cX7_heard 70 = .ok (.invokevirtual 94, 3) := by decide +kernel
theorem dX7_heard_73 : decode cX7_heard 73 = .ok (.iconst 0, 1) := by decide +kernel
theorem dX7_heard_74 : decode cX7_heard 74 = .ok (.ireturn, 1) := by decide +kernel
theorem dX7_heard_75 : decode cX7_heard 75 = .ok (.iload_n 3, 1) := by decide +kernel
theorem dX7_heard_76 : decode cX7_heard 76 = .ok (.iconst (-1), 1) := by decide +kernel
theorem dX7_heard_77 : decode cX7_heard 77 = .ok (.if_icmp .ne 84, 3) := by decide +kernel
theorem dX7_heard_80 : decode cX7_heard 80 = .ok (.aload_n 0, 1) := by decide +kernel
theorem dX7_heard_81 : decode cX7_heard 81 = .ok (.getfield 91, 3) := by decide +kernel
theorem dX7_heard_84 : decode cX7_heard 84 = .ok (.bipush 12, 2) := by decide +kernel
theorem dX7_heard_86 : decode cX7_heard 86 = .ok (.if_icmp .ne 5, 3) := by decide +kernel
theorem dX7_heard_89 : decode cX7_heard 89 = .ok (.iconst 5, 1) := by decide +kernel
theorem dX7_heard_90 : decode cX7_heard 90 = .ok (.ireturn, 1) := by decide +kernel
theorem dX7_heard_91 : decode cX7_heard 91 = .ok (.aload_n 0, 1) := by decide +kernel
theorem dX7_heard_92 : decode cX7_heard 92 = .ok (.getfield 55, 3) := by decide +kernel
theorem dX7_heard_95 : decode cX7_heard 95 = .ok (.bipush 12, 2) := by decide +kernel
theorem dX7_heard_97 : decode cX7_heard 97 = .ok (.iconst 1, 1) := by decide +kernel
theorem dX7_heard_98 : decode cX7_heard 98 = .ok (.iastore, 1) := by decide +kernel
theorem dX7_heard_99 : decode cX7_heard 99 = .ok (.aload_n 0, 1) := by decide +kernel
theorem dX7_heard_100 : decode cX7_heard 100 = .ok (.bipush 12, 2) := by decide +kernel
theorem dX7_heard_102 : decode cX7_heard 102 = .ok (.aload_n 0, 1) := by decide +kernel
theorem dX7_heard_103 : decode cX7_heard 103 = .ok (.getfield 91, 3) := by decide +kernel
theorem dX7_heard_106 : decode cX7_heard 106 = .ok (.invokevirtual 97, 3) := by decide +kernel
theorem dX7_heard_109 : decode cX7_heard 109 = .ok (.aload_n 0, 1) := by decide +kernel
theorem dX7_heard_110 : decode cX7_heard 110 = .ok (.dup, 1) := by decide +kernel
theorem dX7_heard_111 : decode cX7_heard 111 = .ok (.getfield 91, 3) := by decide +kernel
theorem dX7_heard_114 : decode cX7_heard 114 = .ok (.iconst 1, 1) := by decide +kernel
theorem dX7_heard_115 : decode cX7_heard 115 = .ok (.iadd, 1) := by decide +kernel
theorem dX7_heard_116 : decode cX7_heard 116 = .ok (.putfield 91, 3) := by decide +kernel
theorem dX7_heard_119 : decode cX7_heard 119 = .ok (.aload_n 0, 1) := by decide +kernel
theorem dX7_heard_120 : decode cX7_heard 120 = .ok (.getfield 46, 3) := by decide +kernel
theorem dX7_heard_123 : decode cX7_heard 123 = .ok (.iload_n 1, 1) := by decide +kernel
theorem dX7_heard_124 : decode cX7_heard 124 = .ok (.aload_n 0, 1) := by decide +kernel
theorem dX7_heard_125 : decode cX7_heard 125 = .ok (.getfield 27, 3) := by decide +kernel
theorem dX7_heard_128 : decode cX7_heard 128 = .ok (.aload_n 0, 1) := by decide +kernel
theorem dX7_heard_129 : decode cX7_heard 129 = .ok (.getfield 46, 3) := by decide +kernel
theorem dX7_heard_132 : decode cX7_heard 132 = .ok (.iload_n 1, 1) := by decide +kernel
theorem dX7_heard_133 : decode cX7_heard 133 = .ok (.iaload, 1) := by decide +kernel
theorem dX7_heard_134 : decode cX7_heard 134 = .ok (.if_icmp .le 10, 3) := by decide +kernel
theorem dX7_heard_137 : decode cX7_heard 137 = .ok (.aload_n 0, 1) := by decide +kernel
theorem dX7_heard_138 : decode cX7_heard 138 = .ok (.getfield 27, 3) := by decide +kernel
theorem dX7_heard_141 : decode cX7_heard 141 = .ok (.goto 9, 3) := by decide +kernel
theorem dX7_heard_144 : decode cX7_heard 144 = .ok (.aload_n 0, 1) := by decide +kernel
theorem dX7_heard_145 : decode cX7_heard 145 = .ok (.getfield 46, 3) := by decide +kernel
theorem dX7_heard_148 : decode cX7_heard 148 = .ok (.iload_n 1, 1) := by decide +kernel
theorem dX7_heard_149 : decode cX7_heard 149 = .ok (.iaload, 1) := by decide +kernel
theorem dX7_heard_150 : decode cX7_heard 150 = .ok (.iastore, 1) := by decide +kernel
theorem dX7_heard_151 : decode cX7_heard 151 = .ok (.aload_n 0, 1) := by decide +kernel
theorem dX7_heard_152 : decode cX7_heard 152 = .ok (.getfield 43, 3) := by decide +kernel
theorem dX7_heard_155 : decode cX7_heard 155 = .ok (.iload_n 1, 1) := by decide +kernel
theorem dX7_heard_156 : decode cX7_heard 156 = .ok (.iconst 1, 1) := by decide +kernel
theorem dX7_heard_157 : decode cX7_heard 157 = .ok (.iastore, 1) := by decide +kernel
theorem dX7_heard_158 : decode cX7_heard 158 = .ok (.goto 25, 3) := by decide +kernel
theorem dX7_heard_161 : decode cX7_heard 161 = .ok (.aload_n 0, 1) := by decide +kernel
theorem dX7_heard_162 : decode cX7_heard 162 = .ok (.getfield 55, 3) := by decide +kernel
theorem dX7_heard_165 : decode cX7_heard 165 = .ok (.bipush 12, 2) := by decide +kernel
theorem dX7_heard_167 : decode cX7_heard 167 = .ok (.aload_n 0, 1) := by decide +kernel
theorem dX7_heard_168 : decode cX7_heard 168 = .ok (.getfield 55, 3) := by decide +kernel
theorem dX7_heard_171 : decode cX7_heard 171 = .ok (.iload_n 3, 1) := by decide +kernel
theorem dX7_heard_172 : decode cX7_heard 172 = .ok (.iaload, 1) := by decide +kernel
theorem dX7_heard_173 : decode cX7_heard 173 = .ok (.iconst 1, 1) := by decide +kernel
theorem dX7_heard_174 : decode cX7_heard 174 = .ok (.iadd, 1) := by decide +kernel
theorem dX7_heard_175 : decode cX7_heard 175 = .ok (.iastore, 1) := by decide +kernel
theorem dX7_heard_176 : decode cX7_heard 176 = .ok (.aload_n 0, 1) := by decide +kernel
theorem dX7_heard_177 : decode cX7_heard 177 = .ok (.bipush 12, 2) := by decide +kernel
theorem dX7_heard_179 : decode cX7_heard 179 = .ok (.iload_n 3, 1) := by decide +kernel
theorem dX7_heard_180 : decode cX7_heard 180 = .ok (.invokevirtual 97, 3) := by decide +kernel
theorem dX7_heard_183 : decode cX7_heard 183 = .ok (.iconst 0, 1) := by decide +kernel
theorem dX7_heard_184 : decode cX7_heard 184 = .ok (.ireturn, 1) := by decide +kernel
set_option maxRecDepth 20000 in
theorem ggX7_hear_X7_heard : GoodIn wsX7_hear wsX7_heard := goodIn_r _ [10, 11, 12, 13, 14, 15, 16, 17, 18, 19, 20, 9, 21, 22, 3, 23, 24, 25, 26, 27, 28, 29, 30, 31, 32, 33, 34, 35, 36, 37, 38, 39, 40, 41, 42, 43, 44, 45, 46, 47, 48, 49, 50, 51, 52, 53, 54, 55, 56, 57, 58, 59, 60, 61, 62, 63] (by decide +kernel) (by decide +kernel)
set_option maxRecDepth 20000 in
theorem gX7_hear_X7_heard : GoodIn wsX7_hear (wsV RX7 108 RX7 yX7_heard wsX7_heard) := goodIn_app (goodIn_of _ (by decide +kernel)) ggX7_hear_X7_heard
theorem dX7_hear_0 : decode cX7_hear 0 = .ok (.iload_n 1, 1) := by decide +kernel
theorem dX7_hear_1 : decode cX7_hear 1 = .ok (.ifCond .lt 17, 3) := by decide +kernel
theorem dX7_hear_4 : decode cX7_hear 4 = .ok (.iload_n 1, 1) := by decide +kernel
theorem dX7_hear_5 : decode cX7_hear 5 = .ok (.iconst 4, 1) := by decide +kernel
theorem dX7_hear_6 : decode cX7_hear 6 = .ok (.if_icmp .ge 12, 3) := by decide +kernel
theorem dX7_hear_9 : decode cX7_hear 9 = .ok (.aload_n 0, 1) := by decide +kernel
theorem dX7_hear_10 : decode cX7_hear 10 = .ok (.getfield 30, 3) := by decide +kernel
theorem dX7_hear_13 : decode cX7_hear 13 = .ok (.iload_n 1, 1) := by decide +kernel
theorem dX7_hear_14 : decode cX7_hear 14 = .ok (.baload, 1) := by decide +kernel
theorem dX7_hear_15 : decode cX7_hear 15 = .ok (.ifCond .ne 5, 3) := by decide +kernel
theorem dX7_hear_18 : decode cX7_hear 18 = .ok (.iconst (-1), 1) := by decide +kernel
theorem dX7_hear_19 : decode cX7_hear 19 = .ok (.ireturn, 1) := by decide +kernel
theorem dX7_hear_20 : decode cX7_hear 20 = .ok (.aload_n 0, 1) := by decide +kernel
theorem dX7_hear_21 : decode cX7_hear 21 = .ok (.aload_n 0, 1) := by decide +kernel
theorem dX7_hear_22 : decode cX7_hear 22 = .ok (.iload_n 1, 1) := by decide +kernel
theorem dX7_hear_23 : decode cX7_hear 23 = .ok (.invokevirtual 108, 3) := by decide +kernel
theorem dX7_hear_26 : decode cX7_hear 26 = .ok (.putfield 112, 3) := by decide +kernel
theorem dX7_hear_29 : decode cX7_hear 29 = .ok (.aload_n 0, 1) := by decide +kernel
theorem dX7_hear_30 : decode cX7_hear 30 = .ok (.iconst 0, 1) := by decide +kernel
theorem dX7_hear_31 : decode cX7_hear 31 = .ok (.putfield 70, 3) := by decide +kernel
theorem dX7_hear_34 : decode cX7_hear 34 = .ok (.aload_n 0, 1) := by decide +kernel
theorem dX7_hear_35 : decode cX7_hear 35 = .ok (.getfield 112, 3) := by decide +kernel
theorem dX7_hear_38 : decode cX7_hear 38 = .ok (.ifCond .ne 16, 3) := by decide +kernel
theorem dX7_hear_41 : decode cX7_hear 41 = .ok (.aload_n 0, 1) := by decide +kernel
theorem dX7_hear_42 : decode cX7_hear 42 = .ok (.getfield 37, 3) := by decide +kernel
theorem dX7_hear_45 : decode cX7_hear 45 = .ok (.iload_n 1, 1) := by decide +kernel
theorem dX7_hear_46 : decode cX7_hear 46 = .ok (.dup2, 1) := by decide +kernel
theorem dX7_hear_47 : decode cX7_hear 47 = .ok (.iaload, 1) := by decide +kernel
theorem dX7_hear_48 : decode cX7_hear 48 = .ok (.iconst 1, 1) := by decide +kernel
theorem dX7_hear_49 : decode cX7_hear 49 = .ok (.iadd, 1) := by decide +kernel
theorem dX7_hear_50 : decode cX7_hear 50 = .ok (.iastore, 1) := by decide +kernel
theorem dX7_hear_51 : decode cX7_hear 51 = .ok (.goto 13, 3) := by decide +kernel
theorem dX7_hear_54 : decode cX7_hear 54 = .ok (.aload_n 0, 1) := by decide +kernel
theorem dX7_hear_55 : decode cX7_hear 55 = .ok (.getfield 40, 3) := by decide +kernel
theorem dX7_hear_58 : decode cX7_hear 58 = .ok (.iload_n 1, 1) := by decide +kernel
theorem dX7_hear_59 : decode cX7_hear 59 = .ok (.dup2, 1) := by decide +kernel
theorem dX7_hear_60 : decode cX7_hear 60 = .ok (.iaload, 1) := by decide +kernel
theorem dX7_hear_61 : decode cX7_hear 61 = .ok (.iconst 1, 1) := by decide +kernel
theorem dX7_hear_62 : decode cX7_hear 62 = .ok (.iadd, 1) := by decide +kernel
theorem dX7_hear_63 : decode cX7_hear 63 = .ok (.iastore, 1) := by decide +kernel
theorem dX7_hear_64 : decode cX7_hear 64 = .ok (.aload_n 0, 1) := by decide +kernel
theorem dX7_hear_65 : decode cX7_hear 65 = .ok (.getfield 112, 3) := by decide +kernel
theorem dX7_hear_68 : decode cX7_hear 68 = .ok (.ireturn, 1) := by decide +kernel
set_option maxRecDepth 20000 in
theorem ggX7_tick_X7_forget : GoodIn wsX7_tick wsX7_forget := goodIn_r _ [15, 3, 16, 17, 18, 14, 19, 20, 4, 21, 22, 23, 42, 43, 44, 45, 46, 47, 48, 49, 50, 51, 52, 53, 54, 55, 56, 57, 58, 59, 60, 61, 62, 63, 64, 65] (by decide +kernel) (by decide +kernel)
set_option maxRecDepth 20000 in
theorem gX7_tick_X7_forget : GoodIn wsX7_tick (wsV RX7 94 RX7 yX7_forget wsX7_forget) := goodIn_app (goodIn_of _ (by decide +kernel)) ggX7_tick_X7_forget
set_option maxRecDepth 20000 in
theorem ggX7_tick_X7_send : GoodIn wsX7_tick wsX7_send := goodIn_r _ [27, 28, 29, 30, 31, 32, 33, 34, 35, 14, 36, 37, 38, 39, 40, 41, 42, 43, 44, 45, 46, 47, 48, 49, 50, 51, 52, 53, 54, 55, 56, 57, 58, 59, 60, 61, 62, 63, 64, 65] (by decide +kernel) (by decide +kernel)
set_option maxRecDepth 20000 in
theorem gX7_tick_X7_send : GoodIn wsX7_tick (wsV RX7 88 RX7 yX7_send wsX7_send) := goodIn_app (goodIn_of _ (by decide +kernel)) ggX7_tick_X7_send
theorem dX7_tick_0 : decode cX7_tick 0 = .ok (.iload_n 1, 1) := by decide +kernel
theorem dX7_tick_1 : decode cX7_tick 1 = .ok (.iconst 1, 1) := by decide +kernel
theorem dX7_tick_2 : decode cX7_tick 2 = .ok (.if_icmp .lt 10, 3) := by decide +kernel
theorem dX7_tick_5 : decode cX7_tick 5 = .ok (.iload_n 1, 1) := by decide +kernel
theorem dX7_tick_6 : decode cX7_tick 6 = .ok (.sipush 5000, 3) := by decide +kernel
theorem dX7_tick_9 : decode cX7_tick 9 = .ok (.if_icmp .le 5, 3) := by decide +kernel
theorem dX7_tick_12 : decode cX7_tick 12 = .ok (.iconst (-1), 1) := by decide +kernel
theorem dX7_tick_13 : decode cX7_tick 13 = .ok (.ireturn, 1) := by decide +kernel
theorem dX7_tick_14 : decode cX7_tick 14 = .ok (.iconst 0, 1) := by decide +kernel
theorem dX7_tick_15 : decode cX7_tick 15 = .ok (.istore_n 2, 1) := by decide +kernel
theorem dX7_tick_16 : decode cX7_tick 16 = .ok (.iconst 0, 1) := by decide +kernel
theorem dX7_tick_17 : decode cX7_tick 17 = .ok (.istore_n 3, 1) := by decide +kernel
theorem dX7_tick_18 : decode cX7_tick 18 = .ok (.iload_n 3, 1) := by decide +kernel
theorem dX7_tick_19 : decode cX7_tick 19 = .ok (.iload_n 1, 1) := by decide +kernel
theorem dX7_tick_20 : decode cX7_tick 20 = .ok (.if_icmp .ge 202, 3) := by decide +kernel
theorem dX7_tick_23 : decode cX7_tick 23 = .ok (.aload_n 0, 1) := by decide +kernel
theorem dX7_tick_24 : decode cX7_tick 24 = .ok (.aload_n 0, 1) := by decide +kernel
theorem dX7_tick_25 : decode cX7_tick 25 = .ok (.getfield 115, 3) := by decide +kernel
theorem dX7_tick_28 : decode cX7_tick 28 = .ok (.iconst 1, 1) := by decide +kernel
theorem dX7_tick_29 : decode cX7_tick 29 = .ok (.iadd, 1) := by decide +kernel
theorem dX7_tick_30 : decode cX7_tick 30 = .ok (.ldc 118, 2) := by decide +kernel
theorem dX7_tick_32 : decode cX7_tick 32 = .ok (.iand, 1) := by decide +kernel
theorem dX7_tick_33 : decode cX7_tick 33 = .ok (.putfield 115, 3) := by decide +kernel
theorem dX7_tick_36 : decode cX7_tick 36 = .ok (.aload_n 0, 1) := by decide +kernel
theorem dX7_tick_37 : decode cX7_tick 37 = .ok (.getfield 91, 3) := by decide +kernel
theorem dX7_tick_40 : decode cX7_tick 40 = .ok (.iconst 1, 1) := by decide +kernel
theorem dX7_tick_41 : decode cX7_tick 41 = .ok (.isub, 1) := by decide +kernel
theorem dX7_tick_42 : decode cX7_tick 42 = .ok (.istore 4, 2) := by decide +kernel
theorem dX7_tick_44 : decode cX7_tick 44 = .ok (.iload 4, 2) := by decide +kernel
theorem dX7_tick_46 : decode cX7_tick 46 = .ok (.ifCond .lt 36, 3) := by decide +kernel
theorem dX7_tick_49 : decode cX7_tick 49 = .ok (.aload_n 0, 1) := by decide +kernel
theorem dX7_tick_50 : decode cX7_tick 50 = .ok (.getfield 52, 3) := by decide +kernel
theorem dX7_tick_53 : decode cX7_tick 53 = .ok (.iload 4, 2) := by decide +kernel
theorem dX7_tick_55 : decode cX7_tick 55 = .ok (.dup2, 1) := by decide +kernel
theorem dX7_tick_56 : decode cX7_tick 56 = .ok (.iaload, 1) := by decide +kernel
theorem dX7_tick_57 : decode cX7_tick 57 = .ok (.iconst 1, 1) := by decide +kernel
theorem dX7_tick_58 : decode cX7_tick 58 = .ok (.isub, 1) := by decide +kernel
theorem dX7_tick_59 : decode cX7_tick 59 = .ok (.iastore, 1) := by decide +kernel
theorem dX7_tick_60 : decode cX7_tick 60 = .ok (.aload_n 0, 1) := by decide +kernel
theorem dX7_tick_61 : decode cX7_tick 61 = .ok (.getfield 52, 3) := by decide +kernel
theorem dX7_tick_64 : decode cX7_tick 64 = .ok (.iload 4, 2) := by decide +kernel
theorem dX7_tick_66 : decode cX7_tick 66 = .ok (.iaload, 1) := by decide +kernel
theorem dX7_tick_67 : decode cX7_tick 67 = .ok (.ifCond .ne 9, 3) := by decide +kernel
theorem dX7_tick_70 : decode cX7_tick 70 = .ok (.aload_n 0, 1) := by decide +kernel
theorem dX7_tick_71 : decode cX7_tick 71 = .ok (.iload 4, 2) := by decide +kernel
theorem dX7_tick_73 : decode cX7_tick 73 = .ok (.invokevirtual 94, 3) := by decide +kernel
theorem dX7_tick_76 : decode cX7_tick 76 = .ok (.iinc 4 (-1), 3) := by decide +kernel
theorem dX7_tick_79 : decode cX7_tick 79 = .ok (.goto (-35), 3) := by decide +kernel
theorem dX7_tick_82 : decode cX7_tick 82 = .ok (.iconst 0, 1) := by decide +kernel
theorem dX7_tick_83 : decode cX7_tick 83 = .ok (.istore 4, 2) := by decide +kernel
theorem dX7_tick_85 : decode cX7_tick 85 = .ok (.iload 4, 2) := by decide +kernel
theorem dX7_tick_87 : decode cX7_tick 87 = .ok (.iconst 4, 1) := by decide +kernel
theorem dX7_tick_88 : decode cX7_tick 88 = .ok (.if_icmp .ge 128, 3) := by decide +kernel
theorem dX7_tick_91 : decode cX7_tick 91 = .ok (.aload_n 0, 1) := by decide +kernel
theorem dX7_tick_92 : decode cX7_tick 92 = .ok (.getfield 30, 3) := by decide +kernel
theorem dX7_tick_95 : decode cX7_tick 95 = .ok (.iload 4, 2) := by decide +kernel
theorem dX7_tick_97 : decode cX7_tick 97 = .ok (.baload, 1) := by decide +kernel
theorem dX7_tick_98 : decode cX7_tick 98 = .ok (.ifCond .ne 6, 3) := by decide +kernel
theorem dX7_tick_101 : decode cX7_tick 101 = .ok (.goto 109, 3) := by decide +kernel
theorem dX7_tick_104 : decode cX7_tick 104 = .ok (.aload_n 0, 1) := by decide +kernel
theorem dX7_tick_105 : decode cX7_tick 105 = .ok (.getfield 43, 3) := by decide +kernel
theorem dX7_tick_108 : decode cX7_tick 108 = .ok (.iload 4, 2) := by decide +kernel
theorem dX7_tick_110 : decode cX7_tick 110 = .ok (.dup2, 1) := by decide +kernel
theorem dX7_tick_111 : decode cX7_tick 111 = .ok (.iaload, 1) := by decide +kernel
theorem dX7_tick_112 : decode cX7_tick 112 = .ok (.iconst 1, 1) := by decide +kernel
theorem dX7_tick_113 : decode cX7_tick 113 = .ok (.isub, 1) := by decide +kernel
theorem dX7_tick_114 : decode cX7_tick 114 = .ok (.iastore, 1) := by decide +kernel
theorem dX7_tick_115 : decode cX7_tick 115 = .ok (.aload_n 0, 1) := by decide +kernel
theorem dX7_tick_116 : decode cX7_tick 116 = .ok (.getfield 43, 3) := by decide +kernel
theorem dX7_tick_119 : decode cX7_tick 119 = .ok (.iload 4, 2) := by decide +kernel
theorem dX7_tick_121 : decode cX7_tick 121 = .ok (.iaload, 1) := by decide +kernel
theorem dX7_tick_122 : decode cX7_tick 122 = .ok (.ifCond .le 6, 3) := by decide +kernel
theorem dX7_tick_125 : decode cX7_tick 125 = .ok (.goto 85, 3) := by decide +kernel
theorem dX7_tick_128 : decode cX7_tick 128 = .ok (.aload_n 0, 1) := by decide +kernel
theorem dX7_tick_129 : decode cX7_tick 129 = .ok (.getfield 20, 3) := by decide +kernel
theorem dX7_tick_132 : decode cX7_tick 132 = .ok (.aload_n 0, 1) := by decide +kernel
theorem dX7_tick_133 : decode cX7_tick 133 = .ok (.getfield 24, 3) := by decide +kernel
theorem dX7_tick_136 : decode cX7_tick 136 = .ok (.imul, 1) := by decide +kernel
theorem dX7_tick_137 : decode cX7_tick 137 = .ok (.iconst 1, 1) := by decide +kernel
theorem dX7_tick_138 : decode cX7_tick 138 = .ok (.iadd, 1) := by decide +kernel
theorem dX7_tick_139 : decode cX7_tick 139 = .ok (.istore 5, 2) := by decide +kernel
theorem dX7_tick_141 : decode cX7_tick 141 = .ok (.aload_n 0, 1) := by decide +kernel
theorem dX7_tick_142 : decode cX7_tick 142 = .ok (.iload 4, 2) := by decide +kernel
theorem dX7_tick_144 : decode cX7_tick 144 = .ok (.iload 5, 2) := by decide +kernel
theorem dX7_tick_146 : decode cX7_tick 146 = .ok (.ldc 119, 2) := by decide +kernel
theorem dX7_tick_148 : decode cX7_tick 148 = .ok (.if_icmp .le 8, 3) := by decide +kernel
theorem dX7_tick_151 : decode cX7_tick 151 = .ok (.ldc 119, 2) := by decide +kernel
theorem dX7_tick_153 : decode cX7_tick 153 = .ok (.goto 5, 3) := by decide +kernel
theorem dX7_tick_156 : decode cX7_tick 156 = .ok (.iload 5, 2) := by decide +kernel
theorem dX7_tick_158 : decode cX7_tick 158 = .ok (.invokevirtual 88, 3) := by decide +kernel
theorem dX7_tick_161 : decode cX7_tick 161 = .ok (.iinc 2 1, 3) := by decide +kernel
theorem dX7_tick_164 : decode cX7_tick 164 = .ok (.aload_n 0, 1) := by decide +kernel
theorem dX7_tick_165 : decode cX7_tick 165 = .ok (.getfield 46, 3) := by decide +kernel
theorem dX7_tick_168 : decode cX7_tick 168 = .ok (.iload 4, 2) := by decide +kernel
theorem dX7_tick_170 : decode cX7_tick 170 = .ok (.iaload, 1) := by decide +kernel
theorem dX7_tick_171 : decode cX7_tick 171 = .ok (.ifCond .le 14, 3) := by decide +kernel
theorem dX7_tick_174 : decode cX7_tick 174 = .ok (.aload_n 0, 1) := by decide +kernel
theorem dX7_tick_175 : decode cX7_tick 175 = .ok (.getfield 46, 3) := by decide +kernel
theorem dX7_tick_178 : decode cX7_tick 178 = .ok (.iload 4, 2) := by decide +kernel
theorem dX7_tick_180 : decode cX7_tick 180 = .ok (.dup2, 1) := by decide +kernel
theorem dX7_tick_181 : decode cX7_tick 181 = .ok (.iaload, 1) := by decide +kernel
theorem dX7_tick_182 : decode cX7_tick 182 = .ok (.iconst 1, 1) := by decide +kernel
theorem dX7_tick_183 : decode cX7_tick 183 = .ok (.isub, 1) := by decide +kernel
theorem dX7_tick_184 : decode cX7_tick 184 = .ok (.iastore, 1) := by decide +kernel
theorem dX7_tick_185 : decode cX7_tick 185 = .ok (.aload_n 0, 1) := by decide +kernel
theorem dX7_tick_186 : decode cX7_tick 186 = .ok (.getfield 43, 3) := by decide +kernel
theorem dX7_tick_189 : decode cX7_tick 189 = .ok (.iload 4, 2) := by decide +kernel
theorem dX7_tick_191 : decode cX7_tick 191 = .ok (.aload_n 0, 1) := by decide +kernel
theorem dX7_tick_192 : decode cX7_tick 192 = .ok (.getfield 46, 3) := by decide +kernel
theorem dX7_tick_195 : decode cX7_tick 195 = .ok (.iload 4, 2) := by decide +kernel
theorem dX7_tick_197 : decode cX7_tick 197 = .ok (.iaload, 1) := by decide +kernel
theorem dX7_tick_198 : decode cX7_tick 198 = .ok (.ifCond .le 7, 3) := by decide +kernel
theorem dX7_tick_201 : decode cX7_tick 201 = .ok (.iconst 1, 1) := by decide +kernel
theorem dX7_tick_202 : decode cX7_tick 202 = .ok (.goto 7, 3) := by decide +kernel
theorem dX7_tick_205 : decode cX7_tick 205 = .ok (.aload_n 0, 1) := by decide +kernel
theorem dX7_tick_206 : decode cX7_tick 206 = .ok (.getfield 20, 3) := by decide +kernel
theorem dX7_tick_209 : decode cX7_tick 209 = .ok (.iastore, 1) := by decide +kernel
theorem dX7_tick_210 : decode cX7_tick 210 = .ok (.iinc 4 1, 3) := by decide +kernel
theorem dX7_tick_213 : decode cX7_tick 213 = .ok (.goto (-128), 3) := by decide +kernel
theorem dX7_tick_216 : decode cX7_tick 216 = .ok (.iinc 3 1, 3) := by decide +kernel
theorem dX7_tick_219 : decode cX7_tick 219 = .ok (.goto (-201), 3) := by decide +kernel
theorem dX7_tick_222 : decode cX7_tick 222 = .ok (.iload_n 2, 1) := by decide +kernel
theorem dX7_tick_223 : decode cX7_tick 223 = .ok (.ireturn, 1) := by decide +kernel
theorem dX7_about_0 : decode cX7_about 0 = .ok (.iload_n 1, 1) := by decide +kernel
theorem dX7_about_1 : decode cX7_about 1 = .ok (.ifCond .lt 8, 3) := by decide +kernel
theorem dX7_about_4 : decode cX7_about 4 = .ok (.iload_n 1, 1) := by decide +kernel
theorem dX7_about_5 : decode cX7_about 5 = .ok (.iconst 4, 1) := by decide +kernel
theorem dX7_about_6 : decode cX7_about 6 = .ok (.if_icmp .lt 5, 3) := by decide +kernel
theorem dX7_about_9 : decode cX7_about 9 = .ok (.iconst (-1), 1) := by decide +kernel
theorem dX7_about_10 : decode cX7_about 10 = .ok (.ireturn, 1) := by decide +kernel
theorem dX7_about_11 : decode cX7_about 11 = .ok (.iconst 0, 1) := by decide +kernel
theorem dX7_about_12 : decode cX7_about 12 = .ok (.istore_n 3, 1) := by decide +kernel
theorem dX7_about_13 : decode cX7_about 13 = .ok (.iconst 0, 1) := by decide +kernel
theorem dX7_about_14 : decode cX7_about 14 = .ok (.istore 4, 2) := by decide +kernel
theorem dX7_about_16 : decode cX7_about 16 = .ok (.iload 4, 2) := by decide +kernel
theorem dX7_about_18 : decode cX7_about 18 = .ok (.aload_n 0, 1) := by decide +kernel
theorem dX7_about_19 : decode cX7_about 19 = .ok (.getfield 91, 3) := by decide +kernel
theorem dX7_about_22 : decode cX7_about 22 = .ok (.if_icmp .ge 28, 3) := by decide +kernel
theorem dX7_about_25 : decode cX7_about 25 = .ok (.iload_n 3, 1) := by decide +kernel
theorem dX7_about_26 : decode cX7_about 26 = .ok (.aload_n 0, 1) := by decide +kernel
theorem dX7_about_27 : decode cX7_about 27 = .ok (.getfield 49, 3) := by decide +kernel
theorem dX7_about_30 : decode cX7_about 30 = .ok (.iload 4, 2) := by decide +kernel
theorem dX7_about_32 : decode cX7_about 32 = .ok (.iaload, 1) := by decide +kernel
theorem dX7_about_33 : decode cX7_about 33 = .ok (.iload_n 1, 1) := by decide +kernel
theorem dX7_about_34 : decode cX7_about 34 = .ok (.if_icmp .ne 7, 3) := by decide +kernel
theorem dX7_about_37 : decode cX7_about 37 = .ok (.iconst 1, 1) := by decide +kernel
theorem dX7_about_38 : decode cX7_about 38 = .ok (.goto 4, 3) := by decide +kernel
theorem dX7_about_41 : decode cX7_about 41 = .ok (.iconst 0, 1) := by decide +kernel
theorem dX7_about_42 : decode cX7_about 42 = .ok (.iadd, 1) := by decide +kernel
theorem dX7_about_43 : decode cX7_about 43 = .ok (.istore_n 3, 1) := by decide +kernel
theorem dX7_about_44 : decode cX7_about 44 = .ok (.iinc 4 1, 3) := by decide +kernel
theorem dX7_about_47 : decode cX7_about 47 = .ok (.goto (-31), 3) := by decide +kernel
theorem dX7_about_50 : decode cX7_about 50 = .ok (.iload_n 2, 1) := by decide +kernel
theorem dX7_about_51 : decode cX7_about 51 = .ok (.tableswitch 93 0 6 #[41, 56, 63, 70, 77, 79, 86], 41) := by decide +kernel
theorem dX7_about_92 : decode cX7_about 92 = .ok (.aload_n 0, 1) := by decide +kernel
theorem dX7_about_93 : decode cX7_about 93 = .ok (.getfield 30, 3) := by decide +kernel
theorem dX7_about_96 : decode cX7_about 96 = .ok (.iload_n 1, 1) := by decide +kernel
theorem dX7_about_97 : decode cX7_about 97 = .ok (.baload, 1) := by decide +kernel
theorem dX7_about_98 : decode cX7_about 98 = .ok (.ifCond .eq 7, 3) := by decide +kernel
theorem dX7_about_101 : decode cX7_about 101 = .ok (.iconst 1, 1) := by decide +kernel
theorem dX7_about_102 : decode cX7_about 102 = .ok (.goto 4, 3) := by decide +kernel
theorem dX7_about_105 : decode cX7_about 105 = .ok (.iconst 0, 1) := by decide +kernel
theorem dX7_about_106 : decode cX7_about 106 = .ok (.ireturn, 1) := by decide +kernel
theorem dX7_about_107 : decode cX7_about 107 = .ok (.aload_n 0, 1) := by decide +kernel
theorem dX7_about_108 : decode cX7_about 108 = .ok (.getfield 34, 3) := by decide +kernel
theorem dX7_about_111 : decode cX7_about 111 = .ok (.iload_n 1, 1) := by decide +kernel
theorem dX7_about_112 : decode cX7_about 112 = .ok (.iaload, 1) := by decide +kernel
theorem dX7_about_113 : decode cX7_about 113 = .ok (.ireturn, 1) := by decide +kernel
theorem dX7_about_114 : decode cX7_about 114 = .ok (.aload_n 0, 1) := by decide +kernel
theorem dX7_about_115 : decode cX7_about 115 = .ok (.getfield 37, 3) := by decide +kernel
theorem dX7_about_118 : decode cX7_about 118 = .ok (.iload_n 1, 1) := by decide +kernel
theorem dX7_about_119 : decode cX7_about 119 = .ok (.iaload, 1) := by decide +kernel
theorem dX7_about_120 : decode cX7_about 120 = .ok (.ireturn, 1) := by decide +kernel
theorem dX7_about_121 : decode cX7_about 121 = .ok (.aload_n 0, 1) := by decide +kernel
theorem dX7_about_122 : decode cX7_about 122 = .ok (.getfield 40, 3) := by decide +kernel
theorem dX7_about_125 : decode cX7_about 125 = .ok (.iload_n 1, 1) := by decide +kernel
theorem dX7_about_126 : decode cX7_about 126 = .ok (.iaload, 1) := by decide +kernel
theorem dX7_about_127 : decode cX7_about 127 = .ok (.ireturn, 1) := by decide +kernel
theorem dX7_about_128 : decode cX7_about 128 = .ok (.iload_n 3, 1) := by decide +kernel
theorem dX7_about_129 : decode cX7_about 129 = .ok (.ireturn, 1) := by decide +kernel
theorem dX7_about_130 : decode cX7_about 130 = .ok (.aload_n 0, 1) := by decide +kernel
theorem dX7_about_131 : decode cX7_about 131 = .ok (.getfield 43, 3) := by decide +kernel
theorem dX7_about_134 : decode cX7_about 134 = .ok (.iload_n 1, 1) := by decide +kernel
theorem dX7_about_135 : decode cX7_about 135 = .ok (.iaload, 1) := by decide +kernel
theorem dX7_about_136 : decode cX7_about 136 = .ok (.ireturn, 1) := by decide +kernel
theorem dX7_about_137 : decode cX7_about 137 = .ok (.aload_n 0, 1) := by decide +kernel
theorem dX7_about_138 : decode cX7_about 138 = .ok (.getfield 46, 3) := by decide +kernel
theorem dX7_about_141 : decode cX7_about 141 = .ok (.iload_n 1, 1) := by decide +kernel
theorem dX7_about_142 : decode cX7_about 142 = .ok (.iaload, 1) := by decide +kernel
theorem dX7_about_143 : decode cX7_about 143 = .ok (.ireturn, 1) := by decide +kernel
theorem dX7_about_144 : decode cX7_about 144 = .ok (.iconst (-1), 1) := by decide +kernel
theorem dX7_about_145 : decode cX7_about 145 = .ok (.ireturn, 1) := by decide +kernel
theorem dX7_count_0 : decode cX7_count 0 = .ok (.iload_n 1, 1) := by decide +kernel
theorem dX7_count_1 : decode cX7_count 1 = .ok (.tableswitch 69 0 5 #[39, 44, 49, 54, 59, 64], 39) := by decide +kernel
theorem dX7_count_40 : decode cX7_count 40 = .ok (.aload_n 0, 1) := by decide +kernel
theorem dX7_count_41 : decode cX7_count 41 = .ok (.getfield 91, 3) := by decide +kernel
theorem dX7_count_44 : decode cX7_count 44 = .ok (.ireturn, 1) := by decide +kernel
theorem dX7_count_45 : decode cX7_count 45 = .ok (.aload_n 0, 1) := by decide +kernel
theorem dX7_count_46 : decode cX7_count 46 = .ok (.getfield 115, 3) := by decide +kernel
theorem dX7_count_49 : decode cX7_count 49 = .ok (.ireturn, 1) := by decide +kernel
theorem dX7_count_50 : decode cX7_count 50 = .ok (.aload_n 0, 1) := by decide +kernel
theorem dX7_count_51 : decode cX7_count 51 = .ok (.getfield 112, 3) := by decide +kernel
theorem dX7_count_54 : decode cX7_count 54 = .ok (.ireturn, 1) := by decide +kernel
theorem dX7_count_55 : decode cX7_count 55 = .ok (.aload_n 0, 1) := by decide +kernel
theorem dX7_count_56 : decode cX7_count 56 = .ok (.getfield 70, 3) := by decide +kernel
theorem dX7_count_59 : decode cX7_count 59 = .ok (.ireturn, 1) := by decide +kernel
theorem dX7_count_60 : decode cX7_count 60 = .ok (.aload_n 0, 1) := by decide +kernel
theorem dX7_count_61 : decode cX7_count 61 = .ok (.getfield 67, 3) := by decide +kernel
theorem dX7_count_64 : decode cX7_count 64 = .ok (.ireturn, 1) := by decide +kernel
theorem dX7_count_65 : decode cX7_count 65 = .ok (.aload_n 0, 1) := by decide +kernel
theorem dX7_count_66 : decode cX7_count 66 = .ok (.getfield 77, 3) := by decide +kernel
theorem dX7_count_69 : decode cX7_count 69 = .ok (.ireturn, 1) := by decide +kernel
theorem dX7_count_70 : decode cX7_count 70 = .ok (.iconst (-1), 1) := by decide +kernel
theorem dX7_count_71 : decode cX7_count 71 = .ok (.ireturn, 1) := by decide +kernel
theorem dX7_sent_0 : decode cX7_sent 0 = .ok (.iload_n 1, 1) := by decide +kernel
theorem dX7_sent_1 : decode cX7_sent 1 = .ok (.ifCond .lt 24, 3) := by decide +kernel
theorem dX7_sent_4 : decode cX7_sent 4 = .ok (.iload_n 1, 1) := by decide +kernel
theorem dX7_sent_5 : decode cX7_sent 5 = .ok (.aload_n 0, 1) := by decide +kernel
theorem dX7_sent_6 : decode cX7_sent 6 = .ok (.getfield 77, 3) := by decide +kernel
theorem dX7_sent_9 : decode cX7_sent 9 = .ok (.if_icmp .ge 16, 3) := by decide +kernel
theorem dX7_sent_12 : decode cX7_sent 12 = .ok (.aload_n 0, 1) := by decide +kernel
theorem dX7_sent_13 : decode cX7_sent 13 = .ok (.getfield 64, 3) := by decide +kernel
theorem dX7_sent_16 : decode cX7_sent 16 = .ok (.iload_n 1, 1) := by decide +kernel
theorem dX7_sent_17 : decode cX7_sent 17 = .ok (.baload, 1) := by decide +kernel
theorem dX7_sent_18 : decode cX7_sent 18 = .ok (.sipush 255, 3) := by decide +kernel
theorem dX7_sent_21 : decode cX7_sent 21 = .ok (.iand, 1) := by decide +kernel
theorem dX7_sent_22 : decode cX7_sent 22 = .ok (.goto 4, 3) := by decide +kernel
theorem dX7_sent_25 : decode cX7_sent 25 = .ok (.iconst (-1), 1) := by decide +kernel
theorem dX7_sent_26 : decode cX7_sent 26 = .ok (.ireturn, 1) := by decide +kernel
theorem dX7_neighbor_0 : decode cX7_neighbor 0 = .ok (.iload_n 1, 1) := by decide +kernel
theorem dX7_neighbor_1 : decode cX7_neighbor 1 = .ok (.ifCond .lt 20, 3) := by decide +kernel
theorem dX7_neighbor_4 : decode cX7_neighbor 4 = .ok (.iload_n 1, 1) := by decide +kernel
theorem dX7_neighbor_5 : decode cX7_neighbor 5 = .ok (.aload_n 0, 1) := by decide +kernel
theorem dX7_neighbor_6 : decode cX7_neighbor 6 = .ok (.getfield 91, 3) := by decide +kernel
theorem dX7_neighbor_9 : decode cX7_neighbor 9 = .ok (.if_icmp .ge 12, 3) := by decide +kernel
theorem dX7_neighbor_12 : decode cX7_neighbor 12 = .ok (.iload_n 2, 1) := by decide +kernel
theorem dX7_neighbor_13 : decode cX7_neighbor 13 = .ok (.ifCond .lt 8, 3) := by decide +kernel
theorem dX7_neighbor_16 : decode cX7_neighbor 16 = .ok (.iload_n 2, 1) := by decide +kernel
theorem dX7_neighbor_17 : decode cX7_neighbor 17 = .ok (.iconst 3, 1) := by decide +kernel
theorem dX7_neighbor_18 : decode cX7_neighbor 18 = .ok (.if_icmp .le 5, 3) := by decide +kernel
theorem dX7_neighbor_21 : decode cX7_neighbor 21 = .ok (.iconst (-1), 1) := by decide +kernel
theorem dX7_neighbor_22 : decode cX7_neighbor 22 = .ok (.ireturn, 1) := by decide +kernel
theorem dX7_neighbor_23 : decode cX7_neighbor 23 = .ok (.iload_n 2, 1) := by decide +kernel
theorem dX7_neighbor_24 : decode cX7_neighbor 24 = .ok (.ifCond .ne 10, 3) := by decide +kernel
theorem dX7_neighbor_27 : decode cX7_neighbor 27 = .ok (.aload_n 0, 1) := by decide +kernel
theorem dX7_neighbor_28 : decode cX7_neighbor 28 = .ok (.getfield 49, 3) := by decide +kernel
theorem dX7_neighbor_31 : decode cX7_neighbor 31 = .ok (.iload_n 1, 1) := by decide +kernel
theorem dX7_neighbor_32 : decode cX7_neighbor 32 = .ok (.iaload, 1) := by decide +kernel
theorem dX7_neighbor_33 : decode cX7_neighbor 33 = .ok (.ireturn, 1) := by decide +kernel
theorem dX7_neighbor_34 : decode cX7_neighbor 34 = .ok (.iload_n 2, 1) := by decide +kernel
theorem dX7_neighbor_35 : decode cX7_neighbor 35 = .ok (.iconst 1, 1) := by decide +kernel
theorem dX7_neighbor_36 : decode cX7_neighbor 36 = .ok (.if_icmp .ne 10, 3) := by decide +kernel
theorem dX7_neighbor_39 : decode cX7_neighbor 39 = .ok (.aload_n 0, 1) := by decide +kernel
theorem dX7_neighbor_40 : decode cX7_neighbor 40 = .ok (.getfield 52, 3) := by decide +kernel
theorem dX7_neighbor_43 : decode cX7_neighbor 43 = .ok (.iload_n 1, 1) := by decide +kernel
theorem dX7_neighbor_44 : decode cX7_neighbor 44 = .ok (.iaload, 1) := by decide +kernel
theorem dX7_neighbor_45 : decode cX7_neighbor 45 = .ok (.ireturn, 1) := by decide +kernel
theorem dX7_neighbor_46 : decode cX7_neighbor 46 = .ok (.iload_n 2, 1) := by decide +kernel
theorem dX7_neighbor_47 : decode cX7_neighbor 47 = .ok (.iconst 2, 1) := by decide +kernel
theorem dX7_neighbor_48 : decode cX7_neighbor 48 = .ok (.if_icmp .ne 10, 3) := by decide +kernel
theorem dX7_neighbor_51 : decode cX7_neighbor 51 = .ok (.aload_n 0, 1) := by decide +kernel
theorem dX7_neighbor_52 : decode cX7_neighbor 52 = .ok (.getfield 55, 3) := by decide +kernel
theorem dX7_neighbor_55 : decode cX7_neighbor 55 = .ok (.iload_n 1, 1) := by decide +kernel
theorem dX7_neighbor_56 : decode cX7_neighbor 56 = .ok (.iaload, 1) := by decide +kernel
theorem dX7_neighbor_57 : decode cX7_neighbor 57 = .ok (.ireturn, 1) := by decide +kernel
theorem dX7_neighbor_58 : decode cX7_neighbor 58 = .ok (.iconst 0, 1) := by decide +kernel
theorem dX7_neighbor_59 : decode cX7_neighbor 59 = .ok (.istore_n 3, 1) := by decide +kernel
theorem dX7_neighbor_60 : decode cX7_neighbor 60 = .ok (.iconst 1, 1) := by decide +kernel
theorem dX7_neighbor_61 : decode cX7_neighbor 61 = .ok (.istore 4, 2) := by decide +kernel
theorem dX7_neighbor_63 : decode cX7_neighbor 63 = .ok (.iload 4, 2) := by decide +kernel
theorem dX7_neighbor_65 : decode cX7_neighbor 65 = .ok (.bipush 9, 2) := by decide +kernel
theorem dX7_neighbor_67 : decode cX7_neighbor 67 = .ok (.if_icmp .ge 42, 3) := by decide +kernel
theorem dX7_neighbor_70 : decode cX7_neighbor 70 = .ok (.iload_n 3, 1) := by decide +kernel
theorem dX7_neighbor_71 : decode cX7_neighbor 71 = .ok (.iload 4, 2) := by decide +kernel
theorem dX7_neighbor_73 : decode cX7_neighbor 73 = .ok (.iconst 3, 1) := by decide +kernel
theorem dX7_neighbor_74 : decode cX7_neighbor 74 = .ok (.if_icmp .eq 26, 3) := by decide +kernel
theorem dX7_neighbor_77 : decode cX7_neighbor 77 = .ok (.aload_n 0, 1) := by decide +kernel
theorem dX7_neighbor_78 : decode cX7_neighbor 78 = .ok (.getfield 61, 3) := by decide +kernel
theorem dX7_neighbor_81 : decode cX7_neighbor 81 = .ok (.bipush 9, 2) := by decide +kernel
theorem dX7_neighbor_83 : decode cX7_neighbor 83 = .ok (.iload_n 1, 1) := by decide +kernel
theorem dX7_neighbor_84 : decode cX7_neighbor 84 = .ok (.imul, 1) := by decide +kernel
theorem dX7_neighbor_85 : decode cX7_neighbor 85 = .ok (.iload 4, 2) := by decide +kernel
theorem dX7_neighbor_87 : decode cX7_neighbor 87 = .ok (.iadd, 1) := by decide +kernel
theorem dX7_neighbor_88 : decode cX7_neighbor 88 = .ok (.iaload, 1) := by decide +kernel
theorem dX7_neighbor_89 : decode cX7_neighbor 89 = .ok (.iconst (-1), 1) := by decide +kernel
theorem dX7_neighbor_90 : decode cX7_neighbor 90 = .ok (.if_icmp .eq 10, 3) := by decide +kernel
theorem dX7_neighbor_93 : decode cX7_neighbor 93 = .ok (.iconst 1, 1) := by decide +kernel
theorem dX7_neighbor_94 : decode cX7_neighbor 94 = .ok (.iload 4, 2) := by decide +kernel
theorem dX7_neighbor_96 : decode cX7_neighbor 96 = .ok (.ishl, 1) := by decide +kernel
theorem dX7_neighbor_97 : decode cX7_neighbor 97 = .ok (.goto 4, 3) := by decide +kernel
theorem dX7_neighbor_100 : decode cX7_neighbor 100 = .ok (.iconst 0, 1) := by decide +kernel
theorem dX7_neighbor_101 : decode cX7_neighbor 101 = .ok (.ior, 1) := by decide +kernel
theorem dX7_neighbor_102 : decode cX7_neighbor 102 = .ok (.istore_n 3, 1) := by decide +kernel
theorem dX7_neighbor_103 : decode cX7_neighbor 103 = .ok (.iinc 4 1, 3) := by decide +kernel
theorem dX7_neighbor_106 : decode cX7_neighbor 106 = .ok (.goto (-43), 3) := by decide +kernel
theorem dX7_neighbor_109 : decode cX7_neighbor 109 = .ok (.iload_n 3, 1) := by decide +kernel
theorem dX7_neighbor_110 : decode cX7_neighbor 110 = .ok (.ireturn, 1) := by decide +kernel
theorem dX7_content_0 : decode cX7_content 0 = .ok (.iload_n 1, 1) := by decide +kernel
theorem dX7_content_1 : decode cX7_content 1 = .ok (.ifCond .lt 27, 3) := by decide +kernel
theorem dX7_content_4 : decode cX7_content 4 = .ok (.iload_n 1, 1) := by decide +kernel
theorem dX7_content_5 : decode cX7_content 5 = .ok (.aload_n 0, 1) := by decide +kernel
theorem dX7_content_6 : decode cX7_content 6 = .ok (.getfield 91, 3) := by decide +kernel
theorem dX7_content_9 : decode cX7_content 9 = .ok (.if_icmp .ge 19, 3) := by decide +kernel
theorem dX7_content_12 : decode cX7_content 12 = .ok (.iload_n 2, 1) := by decide +kernel
theorem dX7_content_13 : decode cX7_content 13 = .ok (.iconst 1, 1) := by decide +kernel
theorem dX7_content_14 : decode cX7_content 14 = .ok (.if_icmp .lt 14, 3) := by decide +kernel
theorem dX7_content_17 : decode cX7_content 17 = .ok (.iload_n 2, 1) := by decide +kernel
theorem dX7_content_18 : decode cX7_content 18 = .ok (.bipush 9, 2) := by decide +kernel
theorem dX7_content_20 : decode cX7_content 20 = .ok (.if_icmp .ge 8, 3) := by decide +kernel
theorem dX7_content_23 : decode cX7_content 23 = .ok (.iload_n 2, 1) := by decide +kernel
theorem dX7_content_24 : decode cX7_content 24 = .ok (.iconst 3, 1) := by decide +kernel
theorem dX7_content_25 : decode cX7_content 25 = .ok (.if_icmp .ne 5, 3) := by decide +kernel
theorem dX7_content_28 : decode cX7_content 28 = .ok (.iconst (-1), 1) := by decide +kernel
theorem dX7_content_29 : decode cX7_content 29 = .ok (.ireturn, 1) := by decide +kernel
theorem dX7_content_30 : decode cX7_content 30 = .ok (.aload_n 0, 1) := by decide +kernel
theorem dX7_content_31 : decode cX7_content 31 = .ok (.getfield 61, 3) := by decide +kernel
theorem dX7_content_34 : decode cX7_content 34 = .ok (.bipush 9, 2) := by decide +kernel
theorem dX7_content_36 : decode cX7_content 36 = .ok (.iload_n 1, 1) := by decide +kernel
theorem dX7_content_37 : decode cX7_content 37 = .ok (.imul, 1) := by decide +kernel
theorem dX7_content_38 : decode cX7_content 38 = .ok (.iload_n 2, 1) := by decide +kernel
theorem dX7_content_39 : decode cX7_content 39 = .ok (.iadd, 1) := by decide +kernel
theorem dX7_content_40 : decode cX7_content 40 = .ok (.iaload, 1) := by decide +kernel
theorem dX7_content_41 : decode cX7_content 41 = .ok (.istore 4, 2) := by decide +kernel
theorem dX7_content_43 : decode cX7_content 43 = .ok (.iload_n 3, 1) := by decide +kernel
theorem dX7_content_44 : decode cX7_content 44 = .ok (.iconst (-1), 1) := by decide +kernel
theorem dX7_content_45 : decode cX7_content 45 = .ok (.if_icmp .eq 9, 3) := by decide +kernel
theorem dX7_content_48 : decode cX7_content 48 = .ok (.iload 4, 2) := by decide +kernel
theorem dX7_content_50 : decode cX7_content 50 = .ok (.iconst (-1), 1) := by decide +kernel
theorem dX7_content_51 : decode cX7_content 51 = .ok (.if_icmp .ne 6, 3) := by decide +kernel
theorem dX7_content_54 : decode cX7_content 54 = .ok (.iload 4, 2) := by decide +kernel
theorem dX7_content_56 : decode cX7_content 56 = .ok (.ireturn, 1) := by decide +kernel
theorem dX7_content_57 : decode cX7_content 57 = .ok (.iload_n 3, 1) := by decide +kernel
theorem dX7_content_58 : decode cX7_content 58 = .ok (.ifCond .lt 32, 3) := by decide +kernel
theorem dX7_content_61 : decode cX7_content 61 = .ok (.iload_n 3, 1) := by decide +kernel
theorem dX7_content_62 : decode cX7_content 62 = .ok (.iload 4, 2) := by decide +kernel
theorem dX7_content_64 : decode cX7_content 64 = .ok (.if_icmp .ge 26, 3) := by decide +kernel
theorem dX7_content_67 : decode cX7_content 67 = .ok (.aload_n 0, 1) := by decide +kernel
theorem dX7_content_68 : decode cX7_content 68 = .ok (.getfield 58, 3) := by decide +kernel
theorem dX7_content_71 : decode cX7_content 71 = .ok (.bipush 9, 2) := by decide +kernel
theorem dX7_content_73 : decode cX7_content 73 = .ok (.iload_n 1, 1) := by decide +kernel
theorem dX7_content_74 : decode cX7_content 74 = .ok (.imul, 1) := by decide +kernel
theorem dX7_content_75 : decode cX7_content 75 = .ok (.iload_n 2, 1) := by decide +kernel
theorem dX7_content_76 : decode cX7_content 76 = .ok (.iadd, 1) := by decide +kernel
theorem dX7_content_77 : decode cX7_content 77 = .ok (.bipush 60, 2) := by decide +kernel
theorem dX7_content_79 : decode cX7_content 79 = .ok (.imul, 1) := by decide +kernel
theorem dX7_content_80 : decode cX7_content 80 = .ok (.iload_n 3, 1) := by decide +kernel
theorem dX7_content_81 : decode cX7_content 81 = .ok (.iadd, 1) := by decide +kernel
theorem dX7_content_82 : decode cX7_content 82 = .ok (.baload, 1) := by decide +kernel
theorem dX7_content_83 : decode cX7_content 83 = .ok (.sipush 255, 3) := by decide +kernel
theorem dX7_content_86 : decode cX7_content 86 = .ok (.iand, 1) := by decide +kernel
theorem dX7_content_87 : decode cX7_content 87 = .ok (.goto 4, 3) := by decide +kernel
theorem dX7_content_90 : decode cX7_content 90 = .ok (.iconst (-1), 1) := by decide +kernel
theorem dX7_content_91 : decode cX7_content 91 = .ok (.ireturn, 1) := by decide +kernel
set_option maxRecDepth 20000 in
theorem ggX7_check_X7_isAlike : GoodIn wsX7_check wsX7_isAlike := goodIn_r _ [8, 3, 9, 10, 11, 12, 13, 14, 15, 16, 17, 18, 19, 20, 21, 22, 23, 24, 25, 26, 27, 28, 29, 30, 31, 32, 33, 34] (by decide +kernel) (by decide +kernel)
set_option maxRecDepth 20000 in
theorem gX7_check_X7_isAlike : GoodIn wsX7_check (wsV RX7 104 RX7 yX7_isAlike wsX7_isAlike) := goodIn_app (goodIn_of _ (by decide +kernel)) ggX7_check_X7_isAlike
theorem dX7_check_0 : decode cX7_check 0 = .ok (.iconst 1, 1) := by decide +kernel
theorem dX7_check_1 : decode cX7_check 1 = .ok (.istore_n 1, 1) := by decide +kernel
theorem dX7_check_2 : decode cX7_check 2 = .ok (.iconst 0, 1) := by decide +kernel
theorem dX7_check_3 : decode cX7_check 3 = .ok (.istore_n 2, 1) := by decide +kernel
theorem dX7_check_4 : decode cX7_check 4 = .ok (.iload_n 2, 1) := by decide +kernel
theorem dX7_check_5 : decode cX7_check 5 = .ok (.aload_n 0, 1) := by decide +kernel
theorem dX7_check_6 : decode cX7_check 6 = .ok (.getfield 91, 3) := by decide +kernel
theorem dX7_check_9 : decode cX7_check 9 = .ok (.if_icmp .ge 65, 3) := by decide +kernel
theorem dX7_check_12 : decode cX7_check 12 = .ok (.iload_n 1, 1) := by decide +kernel
theorem dX7_check_13 : decode cX7_check 13 = .ok (.ifCond .eq 21, 3) := by decide +kernel
theorem dX7_check_16 : decode cX7_check 16 = .ok (.aload_n 0, 1) := by decide +kernel
theorem dX7_check_17 : decode cX7_check 17 = .ok (.getfield 30, 3) := by decide +kernel
theorem dX7_check_20 : decode cX7_check 20 = .ok (.aload_n 0, 1) := by decide +kernel
theorem dX7_check_21 : decode cX7_check 21 = .ok (.getfield 49, 3) := by decide +kernel
theorem dX7_check_24 : decode cX7_check 24 = .ok (.iload_n 2, 1) := by decide +kernel
theorem dX7_check_25 : decode cX7_check 25 = .ok (.iaload, 1) := by decide +kernel
theorem dX7_check_26 : decode cX7_check 26 = .ok (.baload, 1) := by decide +kernel
theorem dX7_check_27 : decode cX7_check 27 = .ok (.ifCond .eq 7, 3) := by decide +kernel
theorem dX7_check_30 : decode cX7_check 30 = .ok (.iconst 1, 1) := by decide +kernel
theorem dX7_check_31 : decode cX7_check 31 = .ok (.goto 4, 3) := by decide +kernel
theorem dX7_check_34 : decode cX7_check 34 = .ok (.iconst 0, 1) := by decide +kernel
theorem dX7_check_35 : decode cX7_check 35 = .ok (.istore_n 1, 1) := by decide +kernel
theorem dX7_check_36 : decode cX7_check 36 = .ok (.iconst 0, 1) := by decide +kernel
theorem dX7_check_37 : decode cX7_check 37 = .ok (.istore_n 3, 1) := by decide +kernel
theorem dX7_check_38 : decode cX7_check 38 = .ok (.iload_n 3, 1) := by decide +kernel
theorem dX7_check_39 : decode cX7_check 39 = .ok (.iload_n 2, 1) := by decide +kernel
theorem dX7_check_40 : decode cX7_check 40 = .ok (.if_icmp .ge 28, 3) := by decide +kernel
theorem dX7_check_43 : decode cX7_check 43 = .ok (.iload_n 1, 1) := by decide +kernel
theorem dX7_check_44 : decode cX7_check 44 = .ok (.ifCond .eq 16, 3) := by decide +kernel
theorem dX7_check_47 : decode cX7_check 47 = .ok (.aload_n 0, 1) := by decide +kernel
theorem dX7_check_48 : decode cX7_check 48 = .ok (.iload_n 2, 1) := by decide +kernel
theorem dX7_check_49 : decode cX7_check 49 = .ok (.iload_n 3, 1) := by decide +kernel
theorem dX7_check_50 : decode cX7_check 50 = .ok (.invokevirtual 104, 3) := by decide +kernel
theorem dX7_check_53 : decode cX7_check 53 = .ok (.ifCond .ne 7, 3) := by decide +kernel
theorem dX7_check_56 : decode cX7_check 56 = .ok (.iconst 1, 1) := by decide +kernel
theorem dX7_check_57 : decode cX7_check 57 = .ok (.goto 4, 3) := by decide +kernel
theorem dX7_check_60 : decode cX7_check 60 = .ok (.iconst 0, 1) := by decide +kernel
theorem dX7_check_61 : decode cX7_check 61 = .ok (.istore_n 1, 1) := by decide +kernel
theorem dX7_check_62 : decode cX7_check 62 = .ok (.iinc 3 1, 3) := by decide +kernel
theorem dX7_check_65 : decode cX7_check 65 = .ok (.goto (-27), 3) := by decide +kernel
theorem dX7_check_68 : decode cX7_check 68 = .ok (.iinc 2 1, 3) := by decide +kernel
theorem dX7_check_71 : decode cX7_check 71 = .ok (.goto (-67), 3) := by decide +kernel
theorem dX7_check_74 : decode cX7_check 74 = .ok (.iload_n 1, 1) := by decide +kernel
theorem dX7_check_75 : decode cX7_check 75 = .ok (.ifCond .eq 7, 3) := by decide +kernel
theorem dX7_check_78 : decode cX7_check 78 = .ok (.iconst 1, 1) := by decide +kernel
theorem dX7_check_79 : decode cX7_check 79 = .ok (.goto 4, 3) := by decide +kernel
theorem dX7_check_82 : decode cX7_check 82 = .ok (.iconst 0, 1) := by decide +kernel
theorem dX7_check_83 : decode cX7_check 83 = .ok (.ireturn, 1) := by decide +kernel
end
section
theorem dJ9_max_7cf53_0 : decode cJ9_max_7cf53 0 = .ok (.iload_n 0, 1) := by decide +kernel
theorem dJ9_max_7cf53_1 : decode cJ9_max_7cf53 1 = .ok (.iload_n 1, 1) := by decide +kernel
theorem dJ9_max_7cf53_2 : decode cJ9_max_7cf53 2 = .ok (.if_icmp .lt 7, 3) := by decide +kernel
theorem dJ9_max_7cf53_5 : decode cJ9_max_7cf53 5 = .ok (.iload_n 0, 1) := by decide +kernel
theorem dJ9_max_7cf53_6 : decode cJ9_max_7cf53 6 = .ok (.goto 4, 3) := by decide +kernel
theorem dJ9_max_7cf53_9 : decode cJ9_max_7cf53 9 = .ok (.iload_n 1, 1) := by decide +kernel
theorem dJ9_max_7cf53_10 : decode cJ9_max_7cf53 10 = .ok (.ireturn, 1) := by decide +kernel
theorem dJ9_min_7cf53_0 : decode cJ9_min_7cf53 0 = .ok (.iload_n 0, 1) := by decide +kernel
theorem dJ9_min_7cf53_1 : decode cJ9_min_7cf53 1 = .ok (.iload_n 1, 1) := by decide +kernel
theorem dJ9_min_7cf53_2 : decode cJ9_min_7cf53 2 = .ok (.if_icmp .gt 7, 3) := by decide +kernel
theorem dJ9_min_7cf53_5 : decode cJ9_min_7cf53 5 = .ok (.iload_n 0, 1) := by decide +kernel
theorem dJ9_min_7cf53_6 : decode cJ9_min_7cf53 6 = .ok (.goto 4, 3) := by decide +kernel
theorem dJ9_min_7cf53_9 : decode cJ9_min_7cf53 9 = .ok (.iload_n 1, 1) := by decide +kernel
theorem dJ9_min_7cf53_10 : decode cJ9_min_7cf53 10 = .ok (.ireturn, 1) := by decide +kernel
theorem dJ7_fill_53178_0 : decode cJ7_fill_53178 0 = .ok (.iconst 0, 1) := by decide +kernel
theorem dJ7_fill_53178_1 : decode cJ7_fill_53178 1 = .ok (.istore_n 2, 1) := by decide +kernel
theorem dJ7_fill_53178_2 : decode cJ7_fill_53178 2 = .ok (.aload_n 0, 1) := by decide +kernel
theorem dJ7_fill_53178_3 : decode cJ7_fill_53178 3 = .ok (.arraylength, 1) := by decide +kernel
theorem dJ7_fill_53178_4 : decode cJ7_fill_53178 4 = .ok (.istore_n 3, 1) := by decide +kernel
theorem dJ7_fill_53178_5 : decode cJ7_fill_53178 5 = .ok (.iload_n 2, 1) := by decide +kernel
theorem dJ7_fill_53178_6 : decode cJ7_fill_53178 6 = .ok (.iload_n 3, 1) := by decide +kernel
theorem dJ7_fill_53178_7 : decode cJ7_fill_53178 7 = .ok (.if_icmp .ge 13, 3) := by decide +kernel
theorem dJ7_fill_53178_10 : decode cJ7_fill_53178 10 = .ok (.aload_n 0, 1) := by decide +kernel
theorem dJ7_fill_53178_11 : decode cJ7_fill_53178 11 = .ok (.iload_n 2, 1) := by decide +kernel
theorem dJ7_fill_53178_12 : decode cJ7_fill_53178 12 = .ok (.iload_n 1, 1) := by decide +kernel
theorem dJ7_fill_53178_13 : decode cJ7_fill_53178 13 = .ok (.iastore, 1) := by decide +kernel
theorem dJ7_fill_53178_14 : decode cJ7_fill_53178 14 = .ok (.iinc 2 1, 3) := by decide +kernel
theorem dJ7_fill_53178_17 : decode cJ7_fill_53178 17 = .ok (.goto (-12), 3) := by decide +kernel
theorem dJ7_fill_53178_20 : decode cJ7_fill_53178 20 = .ok (.return_, 1) := by decide +kernel
set_option maxRecDepth 20000 in
theorem ggL_law_X6_init : GoodIn wsL_law wsX6_init := goodIn_r _ [9, 10, 11, 12, 13, 14, 15, 16, 17, 18, 19, 20, 21, 22, 23, 24, 25, 26, 27, 28, 29, 30, 31, 32, 33, 34, 35, 36, 37, 38, 39, 40, 41, 42, 43, 44, 45, 46, 47, 48, 49, 50, 51, 52, 53, 54, 55, 56, 57, 58, 59, 60, 61, 62, 63, 64, 65, 66, 67, 68, 69, 70, 71, 72, 73, 74, 75, 76, 77, 78, 79, 80, 81, 82, 83, 84, 85, 86, 87, 88, 89, 90, 91, 92, 93, 2, 94, 95, 96, 97, 501, 502, 503, 504, 505, 506, 507, 508, 509, 510, 511, 512, 537, 538, 539, 540, 541, 542, 543, 544, 545, 546, 547, 548, 549, 550, 551, 552, 553, 554, 555] (by decide +kernel) (by decide +kernel)
set_option maxRecDepth 20000 in
theorem gL_law_X6_init : GoodIn wsL_law (wsX6_init) := ggL_law_X6_init
set_option maxRecDepth 20000 in
theorem ggL_law_X7_init : GoodIn wsL_law wsX7_init := goodIn_r _ [100, 101, 11, 12, 13, 102, 103, 43, 104, 105, 106, 107, 108, 109, 110, 111, 112, 113, 114, 115, 116, 117, 118, 119, 120, 121, 513, 514, 515, 516, 517, 518, 519, 520, 521, 522, 523, 524, 525, 526, 527, 528, 529, 530, 531, 532, 533, 534, 535, 536] (by decide +kernel) (by decide +kernel)
set_option maxRecDepth 20000 in
theorem gL_law_X7_init : GoodIn wsL_law (wsX7_init) := ggL_law_X7_init
set_option maxRecDepth 20000 in
theorem ggL_law_X6_type : GoodIn wsL_law wsX6_type := goodIn_r _ [125, 126, 14, 501, 502, 503, 504, 505, 506, 507, 508, 509, 510, 511, 512] (by decide +kernel) (by decide +kernel)
set_option maxRecDepth 20000 in
theorem gL_law_X6_type : GoodIn wsL_law (wsV RL 15 RX6 yX6_type wsX6_type) := goodIn_app (goodIn_of _ (by decide +kernel)) ggL_law_X6_type
set_option maxRecDepth 20000 in
theorem ggL_law_X7_type : GoodIn wsL_law wsX7_type := goodIn_r _ [130, 131, 102, 513, 514, 515, 516, 517, 518, 519, 520, 521, 522, 523, 524, 525, 526, 527, 528, 529, 530, 531, 532, 533, 534, 535, 536] (by decide +kernel) (by decide +kernel)
set_option maxRecDepth 20000 in
theorem gL_law_X7_type : GoodIn wsL_law (wsV RL 19 RX7 yX7_type wsX7_type) := goodIn_app (goodIn_of _ (by decide +kernel)) ggL_law_X7_type
set_option maxRecDepth 20000 in
theorem ggL_law_X6_tell : GoodIn wsL_law wsX6_tell := goodIn_r _ [135, 126, 136, 137, 2, 138, 139, 93, 94, 140, 141, 142, 143, 18, 144, 145, 146, 17, 147, 148, 149, 150, 151, 44, 152, 153, 154, 155, 156, 157, 158, 159, 160, 20, 161, 162, 163, 37, 164, 165, 166, 167, 168, 169, 170, 14, 171, 172, 173, 174, 45, 95, 96, 97, 82, 83, 84, 85, 86, 87, 88, 89, 90, 91, 92, 501, 502, 503, 504, 505, 506, 507, 508, 509, 510, 511, 512, 537, 538, 546, 547, 548, 549, 550, 551] (by decide +kernel) (by decide +kernel)
set_option maxRecDepth 20000 in
theorem gL_law_X6_tell : GoodIn wsL_law (wsV RL 20 RX6 yX6_tell wsX6_tell) := goodIn_app (goodIn_of _ (by decide +kernel)) ggL_law_X6_tell
set_option maxRecDepth 20000 in
theorem ggL_law_X7_tell : GoodIn wsL_law wsX7_tell := goodIn_r _ [178, 131, 103, 102, 104, 113, 109, 179, 180, 5, 181, 513, 514, 515, 516, 517, 518, 519, 520, 521, 522, 523, 524, 525, 526, 527, 528, 529, 530, 531, 532, 533, 534, 535, 536] (by decide +kernel) (by decide +kernel)
set_option maxRecDepth 20000 in
theorem gL_law_X7_tell : GoodIn wsL_law (wsV RL 24 RX7 yX7_tell wsX7_tell) := goodIn_app (goodIn_of _ (by decide +kernel)) ggL_law_X7_tell
set_option maxRecDepth 20000 in
theorem ggL_law_X6_set : GoodIn wsL_law wsX6_set := goodIn_r _ [185, 33, 34, 35, 501, 502, 503, 504, 505, 506, 507, 508, 509, 510, 511, 512] (by decide +kernel) (by decide +kernel)
set_option maxRecDepth 20000 in
theorem gL_law_X6_set : GoodIn wsL_law (wsV RL 25 RX6 yX6_set wsX6_set) := goodIn_app (goodIn_of _ (by decide +kernel)) ggL_law_X6_set
set_option maxRecDepth 20000 in
theorem ggL_law_X7_set : GoodIn wsL_law wsX7_set := goodIn_r _ [189, 105, 106, 107, 513, 514, 515, 516, 517, 518, 519, 520, 521, 522, 523, 524, 525, 526, 527, 528, 529, 530, 531, 532, 533, 534, 535, 536] (by decide +kernel) (by decide +kernel)
set_option maxRecDepth 20000 in
theorem gL_law_X7_set : GoodIn wsL_law (wsV RL 29 RX7 yX7_set wsX7_set) := goodIn_app (goodIn_of _ (by decide +kernel)) ggL_law_X7_set
set_option maxRecDepth 20000 in
theorem ggL_law_X6_port : GoodIn wsL_law wsX6_port := goodIn_r _ [193, 20, 35, 32, 18, 24, 194, 195, 2, 196, 197, 198, 199, 37, 200, 165, 201, 202, 203, 204, 205, 166, 206, 207, 208, 209, 210, 211, 212, 213, 31, 214, 78, 215, 216, 149, 150, 17, 151, 44, 217, 218, 219, 220, 221, 222, 223, 224, 77, 225, 226, 227, 228, 229, 230, 231, 232, 45, 148, 95, 96, 97, 233, 145, 146, 147, 234, 235, 236, 23, 237, 238, 59, 239, 240, 241, 61, 242, 243, 244, 245, 246, 247, 248, 249, 250, 251, 501, 502, 503, 504, 505, 506, 507, 508, 509, 510, 511, 512, 546, 547, 548, 549, 550, 551, 543, 544, 545, 537, 538, 539, 540, 552, 553, 554, 555] (by decide +kernel) (by decide +kernel)
set_option maxRecDepth 20000 in
theorem gL_law_X6_port : GoodIn wsL_law (wsV RL 30 RX6 yX6_port wsX6_port) := goodIn_app (goodIn_of _ (by decide +kernel)) ggL_law_X6_port
set_option maxRecDepth 20000 in
theorem ggL_law_X7_port : GoodIn wsL_law wsX7_port := goodIn_r _ [255, 109, 113, 114, 107, 256, 115, 257, 258, 259, 5, 260, 261, 121, 104, 103, 110, 262, 263, 264, 265, 266, 267, 268, 269, 120, 270, 271, 272, 273, 274, 275, 276, 277, 116, 117, 119, 118, 513, 514, 515, 516, 517, 518, 519, 520, 521, 522, 523, 524, 525, 526, 527, 528, 529, 530, 531, 532, 533, 534, 535, 536] (by decide +kernel) (by decide +kernel)
set_option maxRecDepth 20000 in
theorem gL_law_X7_port : GoodIn wsL_law (wsV RL 33 RX7 yX7_port wsX7_port) := goodIn_app (goodIn_of _ (by decide +kernel)) ggL_law_X7_port
set_option maxRecDepth 20000 in
theorem ggL_law_X6_hear : GoodIn wsL_law wsX6_hear := goodIn_r _ [281, 20, 28, 14, 126, 282, 194, 195, 2, 196, 197, 198, 199, 37, 200, 165, 283, 284, 285, 27, 286, 72, 287, 47, 48, 17, 49, 44, 50, 51, 52, 53, 288, 289, 290, 291, 292, 293, 294, 295, 296, 297, 298, 299, 300, 93, 94, 301, 145, 146, 147, 148, 149, 150, 151, 302, 303, 304, 305, 306, 307, 83, 84, 85, 45, 86, 87, 88, 89, 90, 91, 92, 95, 96, 97, 308, 309, 310, 311, 24, 35, 312, 313, 314, 315, 316, 317, 318, 23, 319, 238, 59, 239, 240, 241, 61, 242, 243, 320, 321, 322, 323, 66, 324, 325, 326, 327, 328, 172, 173, 174, 329, 330, 331, 332, 333, 245, 246, 247, 248, 249, 250, 251, 334, 335, 336, 337, 338, 339, 340, 341, 342, 343, 344, 345, 346, 205, 347, 348, 349, 350, 166, 351, 352, 353, 354, 355, 356, 357, 358, 359, 360, 361, 362, 363, 364, 365, 366, 367, 368, 369, 501, 502, 503, 504, 505, 506, 507, 508, 509, 510, 511, 512, 546, 547, 548, 549, 550, 551, 541, 542, 537, 538, 539, 540, 552, 553, 554, 555] (by decide +kernel) (by decide +kernel)
set_option maxRecDepth 20000 in
theorem gL_law_X6_hear : GoodIn wsL_law (wsV RL 34 RX6 yX6_hear wsX6_hear) := goodIn_app (goodIn_of _ (by decide +kernel)) ggL_law_X6_hear
set_option maxRecDepth 20000 in
theorem ggL_law_X7_hear : GoodIn wsL_law wsX7_hear := goodIn_r _ [373, 109, 374, 131, 111, 112, 375, 376, 377, 5, 378, 115, 256, 116, 117, 114, 107, 113, 379, 380, 381, 382, 119, 102, 118, 179, 180, 181, 383, 384, 385, 386, 270, 271, 272, 273, 274, 275, 276, 277, 513, 514, 515, 516, 517, 518, 519, 520, 521, 522, 523, 524, 525, 526, 527, 528, 529, 530, 531, 532, 533, 534, 535, 536] (by decide +kernel) (by decide +kernel)
set_option maxRecDepth 20000 in
theorem gL_law_X7_hear : GoodIn wsL_law (wsV RL 37 RX7 yX7_hear wsX7_hear) := goodIn_app (goodIn_of _ (by decide +kernel)) ggL_law_X7_hear
set_option maxRecDepth 20000 in
theorem ggL_law_X6_tick : GoodIn wsL_law wsX6_tick := goodIn_r _ [390, 391, 392, 24, 20, 33, 32, 18, 34, 393, 394, 395, 349, 396, 397, 398, 399, 23, 400, 238, 59, 401, 402, 403, 61, 404, 359, 244, 245, 246, 247, 248, 249, 250, 251, 405, 406, 407, 37, 408, 165, 166, 210, 205, 211, 212, 213, 31, 214, 78, 215, 216, 149, 150, 17, 151, 44, 217, 218, 219, 220, 221, 222, 223, 224, 77, 225, 226, 227, 228, 229, 230, 231, 232, 45, 148, 95, 96, 97, 233, 145, 146, 147, 501, 502, 503, 504, 505, 506, 507, 508, 509, 510, 511, 512, 539, 540, 552, 553, 554, 555, 546, 547, 548, 549, 550, 551, 543, 544, 545, 537, 538] (by decide +kernel) (by decide +kernel)
set_option maxRecDepth 20000 in
theorem gL_law_X6_tick : GoodIn wsL_law (wsV RL 38 RX6 yX6_tick wsX6_tick) := goodIn_app (goodIn_of _ (by decide +kernel)) ggL_law_X6_tick
set_option maxRecDepth 20000 in
theorem ggL_law_X7_tick : GoodIn wsL_law wsX7_tick := goodIn_r _ [412, 413, 414, 256, 116, 109, 113, 105, 106, 415, 114, 270, 271, 272, 5, 273, 274, 275, 276, 277, 115, 117, 119, 118, 257, 258, 259, 260, 261, 121, 104, 103, 110, 262, 263, 264, 265, 266, 267, 268, 269, 120, 513, 514, 515, 516, 517, 518, 519, 520, 521, 522, 523, 524, 525, 526, 527, 528, 529, 530, 531, 532, 533, 534, 535, 536] (by decide +kernel) (by decide +kernel)
set_option maxRecDepth 20000 in
theorem gL_law_X7_tick : GoodIn wsL_law (wsV RL 41 RX7 yX7_tick wsX7_tick) := goodIn_app (goodIn_of _ (by decide +kernel)) ggL_law_X7_tick
set_option maxRecDepth 20000 in
theorem ggL_law_X6_about : GoodIn wsL_law wsX6_about := goodIn_r _ [419, 24, 20, 194, 195, 2, 196, 420, 421, 422, 23, 423, 238, 59, 239, 240, 241, 61, 242, 243, 424, 425, 426, 37, 427, 165, 210, 368, 369, 166, 205, 501, 502, 503, 504, 505, 506, 507, 508, 509, 510, 511, 512, 539, 540, 552, 553, 554, 555, 546, 547, 548, 549, 550, 551] (by decide +kernel) (by decide +kernel)
set_option maxRecDepth 20000 in
theorem gL_law_X6_about : GoodIn wsL_law (wsV RL 42 RX6 yX6_about wsX6_about) := goodIn_app (goodIn_of _ (by decide +kernel)) ggL_law_X6_about
set_option maxRecDepth 20000 in
theorem ggL_law_X7_about : GoodIn wsL_law wsX7_about := goodIn_r _ [431, 256, 115, 109, 110, 111, 112, 113, 114, 513, 514, 515, 516, 517, 518, 519, 520, 521, 522, 523, 524, 525, 526, 527, 528, 529, 530, 531, 532, 533, 534, 535, 536] (by decide +kernel) (by decide +kernel)
set_option maxRecDepth 20000 in
theorem gL_law_X7_about : GoodIn wsL_law (wsV RL 45 RX7 yX7_about wsX7_about) := goodIn_app (goodIn_of _ (by decide +kernel)) ggL_law_X7_about
set_option maxRecDepth 20000 in
theorem ggL_law_X6_count : GoodIn wsL_law wsX6_count := goodIn_r _ [435, 24, 391, 282, 126, 32, 436, 437, 438, 23, 439, 238, 440, 441, 442, 31, 443, 78, 444, 445, 446, 447, 215, 501, 502, 503, 504, 505, 506, 507, 508, 509, 510, 511, 512, 539, 540, 543, 544, 545] (by decide +kernel) (by decide +kernel)
set_option maxRecDepth 20000 in
theorem gL_law_X6_count : GoodIn wsL_law (wsV RL 46 RX6 yX6_count wsX6_count) := goodIn_app (goodIn_of _ (by decide +kernel)) ggL_law_X6_count
set_option maxRecDepth 20000 in
theorem ggL_law_X7_count : GoodIn wsL_law wsX7_count := goodIn_r _ [451, 256, 413, 374, 131, 121, 261, 513, 514, 515, 516, 517, 518, 519, 520, 521, 522, 523, 524, 525, 526, 527, 528, 529, 530, 531, 532, 533, 534, 535, 536] (by decide +kernel) (by decide +kernel)
set_option maxRecDepth 20000 in
theorem gL_law_X7_count : GoodIn wsL_law (wsV RL 49 RX7 yX7_count wsX7_count) := goodIn_app (goodIn_of _ (by decide +kernel)) ggL_law_X7_count
set_option maxRecDepth 20000 in
theorem ggL_law_X6_sent : GoodIn wsL_law wsX6_sent := goodIn_r _ [455, 32, 456, 457, 458, 31, 459, 215, 77, 501, 502, 503, 504, 505, 506, 507, 508, 509, 510, 511, 512, 543, 544, 545] (by decide +kernel) (by decide +kernel)
set_option maxRecDepth 20000 in
theorem gL_law_X6_sent : GoodIn wsL_law (wsV RL 50 RX6 yX6_sent wsX6_sent) := goodIn_app (goodIn_of _ (by decide +kernel)) ggL_law_X6_sent
set_option maxRecDepth 20000 in
theorem ggL_law_X7_sent : GoodIn wsL_law wsX7_sent := goodIn_r _ [463, 261, 120, 513, 514, 515, 516, 517, 518, 519, 520, 521, 522, 523, 524, 525, 526, 527, 528, 529, 530, 531, 532, 533, 534, 535, 536] (by decide +kernel) (by decide +kernel)
set_option maxRecDepth 20000 in
theorem gL_law_X7_sent : GoodIn wsL_law (wsV RL 53 RX7 yX7_sent wsX7_sent) := goodIn_app (goodIn_of _ (by decide +kernel)) ggL_law_X7_sent
set_option maxRecDepth 20000 in
theorem ggL_law_X6_neighbor : GoodIn wsL_law wsX6_neighbor := goodIn_r _ [467, 24, 468, 249, 250, 23, 251, 238, 351, 352, 353, 354, 59, 469, 470, 471, 61, 472, 243, 359, 342, 66, 473, 474, 475, 17, 476, 156, 145, 146, 147, 148, 149, 150, 151, 44, 501, 502, 503, 504, 505, 506, 507, 508, 509, 510, 511, 512, 539, 540, 552, 553, 554, 555, 537, 538] (by decide +kernel) (by decide +kernel)
set_option maxRecDepth 20000 in
theorem gL_law_X6_neighbor : GoodIn wsL_law (wsV RL 54 RX6 yX6_neighbor wsX6_neighbor) := goodIn_app (goodIn_of _ (by decide +kernel)) ggL_law_X6_neighbor
set_option maxRecDepth 20000 in
theorem ggL_law_X7_neighbor : GoodIn wsL_law wsX7_neighbor := goodIn_r _ [480, 256, 115, 116, 117, 119, 513, 514, 515, 516, 517, 518, 519, 520, 521, 522, 523, 524, 525, 526, 527, 528, 529, 530, 531, 532, 533, 534, 535, 536] (by decide +kernel) (by decide +kernel)
set_option maxRecDepth 20000 in
theorem gL_law_X7_neighbor : GoodIn wsL_law (wsV RL 57 RX7 yX7_neighbor wsX7_neighbor) := goodIn_app (goodIn_of _ (by decide +kernel)) ggL_law_X7_neighbor
set_option maxRecDepth 20000 in
theorem ggL_law_X6_content : GoodIn wsL_law wsX6_content := goodIn_r _ [484, 24, 468, 249, 250, 23, 251, 238, 351, 352, 353, 354, 59, 485, 321, 322, 61, 323, 66, 486, 149, 150, 17, 151, 44, 487, 230, 231, 232, 45, 148, 95, 96, 97, 501, 502, 503, 504, 505, 506, 507, 508, 509, 510, 511, 512, 539, 540, 552, 553, 554, 555, 537, 538] (by decide +kernel) (by decide +kernel)
set_option maxRecDepth 20000 in
theorem gL_law_X6_content : GoodIn wsL_law (wsV RL 58 RX6 yX6_content wsX6_content) := goodIn_app (goodIn_of _ (by decide +kernel)) ggL_law_X6_content
set_option maxRecDepth 20000 in
theorem ggL_law_X7_content : GoodIn wsL_law wsX7_content := goodIn_r _ [491, 256, 119, 118, 513, 514, 515, 516, 517, 518, 519, 520, 521, 522, 523, 524, 525, 526, 527, 528, 529, 530, 531, 532, 533, 534, 535, 536] (by decide +kernel) (by decide +kernel)
set_option maxRecDepth 20000 in
theorem gL_law_X7_content : GoodIn wsL_law (wsV RL 62 RX7 yX7_content wsX7_content) := goodIn_app (goodIn_of _ (by decide +kernel)) ggL_law_X7_content
set_option maxRecDepth 20000 in
theorem ggL_law_X6_check : GoodIn wsL_law wsX6_check := goodIn_r _ [495, 24, 20, 436, 437, 438, 23, 439, 238, 351, 352, 353, 354, 59, 496, 240, 241, 61, 242, 243, 194, 195, 2, 196, 197, 198, 199, 37, 200, 165, 485, 321, 322, 323, 66, 316, 317, 318, 319, 239, 320, 324, 325, 326, 17, 327, 45, 95, 96, 97, 148, 149, 150, 151, 44, 328, 172, 173, 174, 501, 502, 503, 504, 505, 506, 507, 508, 509, 510, 511, 512, 539, 540, 552, 553, 554, 555, 546, 547, 548, 549, 550, 551, 537, 538] (by decide +kernel) (by decide +kernel)
set_option maxRecDepth 20000 in
theorem gL_law_X6_check : GoodIn wsL_law (wsV RL 63 RX6 yX6_check wsX6_check) := goodIn_app (goodIn_of _ (by decide +kernel)) ggL_law_X6_check
set_option maxRecDepth 20000 in
theorem ggL_law_X7_check : GoodIn wsL_law wsX7_check := goodIn_r _ [500, 256, 109, 115, 383, 384, 385, 5, 386, 119, 118, 513, 514, 515, 516, 517, 518, 519, 520, 521, 522, 523, 524, 525, 526, 527, 528, 529, 530, 531, 532, 533, 534, 535, 536] (by decide +kernel) (by decide +kernel)
set_option maxRecDepth 20000 in
theorem gL_law_X7_check : GoodIn wsL_law (wsV RL 67 RX7 yX7_check wsX7_check) := goodIn_app (goodIn_of _ (by decide +kernel)) ggL_law_X7_check
theorem dL_law_0 : decode cL_law 0 = .ok (.new 7, 3) := by decide +kernel
theorem dL_law_3 : decode cL_law 3 = .ok (.dup, 1) := by decide +kernel
theorem dL_law_4 : decode cL_law 4 = .ok (.invokespecial 9, 3) := by decide +kernel
theorem dL_law_7 : decode cL_law 7 = .ok (.astore_n 1, 1) := by decide +kernel
theorem dL_law_8 : decode cL_law 8 = .ok (.new 10, 3) := by decide +kernel
theorem dL_law_11 : decode cL_law 11 = .ok (.dup, 1) := by decide +kernel
theorem dL_law_12 : decode cL_law 12 = .ok (.invokespecial 12, 3) := by decide +kernel
theorem dL_law_15 : decode cL_law 15 = .ok (.astore_n 2, 1) := by decide +kernel
theorem dL_law_16 : decode cL_law 16 = .ok (.iconst 0, 1) := by decide +kernel
theorem dL_law_17 : decode cL_law 17 = .ok (.istore_n 3, 1) := by decide +kernel
theorem dL_law_18 : decode cL_law 18 = .ok (.iload_n 3, 1) := by decide +kernel
theorem dL_law_19 : decode cL_law 19 = .ok (.aload_n 0, 1) := by decide +kernel
theorem dL_law_20 : decode cL_law 20 = .ok (.arraylength, 1) := by decide +kernel
theorem dL_law_21 : decode cL_law 21 = .ok (.iconst 4, 1) := by decide +kernel
theorem dL_law_22 : decode cL_law 22 = .ok (.isub, 1) := by decide +kernel
theorem dL_law_23 : decode cL_law 23 = .ok (.if_icmp .gt 445, 3) := by decide +kernel
theorem dL_law_26 : decode cL_law 26 = .ok (.aload_n 0, 1) := by decide +kernel
theorem dL_law_27 : decode cL_law 27 = .ok (.iload_n 3, 1) := by decide +kernel
theorem dL_law_28 : decode cL_law 28 = .ok (.iaload, 1) := by decide +kernel
theorem dL_law_29 : decode cL_law 29 = .ok (.bipush 15, 2) := by decide +kernel
theorem dL_law_31 : decode cL_law 31 = .ok (.iand, 1) := by decide +kernel
theorem dL_law_32 : decode cL_law 32 = .ok (.tableswitch 430 0 11 #[64, 127, 150, 183, 216, 239, 262, 295, 318, 341, 374, 417], 64) := by decide +kernel
theorem dL_law_96 : decode cL_law 96 = .ok (.aload_n 1, 1) := by decide +kernel
theorem dL_law_97 : decode cL_law 97 = .ok (.aload_n 0, 1) := by decide +kernel
theorem dL_law_98 : decode cL_law 98 = .ok (.iload_n 3, 1) := by decide +kernel
theorem dL_law_99 : decode cL_law 99 = .ok (.iconst 1, 1) := by decide +kernel
theorem dL_law_100 : decode cL_law 100 = .ok (.iadd, 1) := by decide +kernel
theorem dL_law_101 : decode cL_law 101 = .ok (.iaload, 1) := by decide +kernel
theorem dL_law_102 : decode cL_law 102 = .ok (.i2l, 1) := by decide +kernel
theorem dL_law_103 : decode cL_law 103 = .ok (.bipush 32, 2) := by decide +kernel
theorem dL_law_105 : decode cL_law 105 = .ok (.lshl, 1) := by decide +kernel
theorem dL_law_106 : decode cL_law 106 = .ok (.aload_n 0, 1) := by decide +kernel
theorem dL_law_107 : decode cL_law 107 = .ok (.iload_n 3, 1) := by decide +kernel
theorem dL_law_108 : decode cL_law 108 = .ok (.iconst 2, 1) := by decide +kernel
theorem dL_law_109 : decode cL_law 109 = .ok (.iadd, 1) := by decide +kernel
theorem dL_law_110 : decode cL_law 110 = .ok (.iaload, 1) := by decide +kernel
theorem dL_law_111 : decode cL_law 111 = .ok (.i2l, 1) := by decide +kernel
theorem dL_law_112 : decode cL_law 112 = .ok (.ldc2_w 13, 3) := by decide +kernel
theorem dL_law_115 : decode cL_law 115 = .ok (.land, 1) := by decide +kernel
theorem dL_law_116 : decode cL_law 116 = .ok (.lor, 1) := by decide +kernel
theorem dL_law_117 : decode cL_law 117 = .ok (.aload_n 0, 1) := by decide +kernel
theorem dL_law_118 : decode cL_law 118 = .ok (.iload_n 3, 1) := by decide +kernel
theorem dL_law_119 : decode cL_law 119 = .ok (.iconst 3, 1) := by decide +kernel
theorem dL_law_120 : decode cL_law 120 = .ok (.iadd, 1) := by decide +kernel
theorem dL_law_121 : decode cL_law 121 = .ok (.iaload, 1) := by decide +kernel
theorem dL_law_122 : decode cL_law 122 = .ok (.invokevirtual 15, 3) := by decide +kernel
theorem dL_law_125 : decode cL_law 125 = .ok (.pop, 1) := by decide +kernel
theorem dL_law_126 : decode cL_law 126 = .ok (.aload_n 2, 1) := by decide +kernel
theorem dL_law_127 : decode cL_law 127 = .ok (.aload_n 0, 1) := by decide +kernel
theorem dL_law_128 : decode cL_law 128 = .ok (.iload_n 3, 1) := by decide +kernel
theorem dL_law_129 : decode cL_law 129 = .ok (.iconst 1, 1) := by decide +kernel
theorem dL_law_130 : decode cL_law 130 = .ok (.iadd, 1) := by decide +kernel
theorem dL_law_131 : decode cL_law 131 = .ok (.iaload, 1) := by decide +kernel
theorem dL_law_132 : decode cL_law 132 = .ok (.i2l, 1) := by decide +kernel
theorem dL_law_133 : decode cL_law 133 = .ok (.bipush 32, 2) := by decide +kernel
theorem dL_law_135 : decode cL_law 135 = .ok (.lshl, 1) := by decide +kernel
theorem dL_law_136 : decode cL_law 136 = .ok (.aload_n 0, 1) := by decide +kernel
theorem dL_law_137 : decode cL_law 137 = .ok (.iload_n 3, 1) := by decide +kernel
theorem dL_law_138 : decode cL_law 138 = .ok (.iconst 2, 1) := by decide +kernel
theorem dL_law_139 : decode cL_law 139 = .ok (.iadd, 1) := by decide +kernel
theorem dL_law_140 : decode cL_law 140 = .ok (.iaload, 1) := by decide +kernel
theorem dL_law_141 : decode cL_law 141 = .ok (.i2l, 1) := by decide +kernel
theorem dL_law_142 : decode cL_law 142 = .ok (.ldc2_w 13, 3) := by decide +kernel
theorem dL_law_145 : decode cL_law 145 = .ok (.land, 1) := by decide +kernel
theorem dL_law_146 : decode cL_law 146 = .ok (.lor, 1) := by decide +kernel
theorem dL_law_147 : decode cL_law 147 = .ok (.aload_n 0, 1) := by decide +kernel
theorem dL_law_148 : decode cL_law 148 = .ok (.iload_n 3, 1) := by decide +kernel
theorem dL_law_149 : decode cL_law 149 = .ok (.iconst 3, 1) := by decide +kernel
theorem dL_law_150 : decode cL_law 150 = .ok (.iadd, 1) := by decide +kernel
theorem dL_law_151 : decode cL_law 151 = .ok (.iaload, 1) := by decide +kernel
theorem dL_law_152 : decode cL_law 152 = .ok (.invokevirtual 19, 3) := by decide +kernel
theorem dL_law_155 : decode cL_law 155 = .ok (.pop, 1) := by decide +kernel
theorem dL_law_156 : decode cL_law 156 = .ok (.goto 306, 3) := by decide +kernel
theorem dL_law_159 : decode cL_law 159 = .ok (.aload_n 1, 1) := by decide +kernel
theorem dL_law_160 : decode cL_law 160 = .ok (.aload_n 0, 1) := by decide +kernel
theorem dL_law_161 : decode cL_law 161 = .ok (.iload_n 3, 1) := by decide +kernel
theorem dL_law_162 : decode cL_law 162 = .ok (.iconst 1, 1) := by decide +kernel
theorem dL_law_163 : decode cL_law 163 = .ok (.iadd, 1) := by decide +kernel
theorem dL_law_164 : decode cL_law 164 = .ok (.iaload, 1) := by decide +kernel
theorem dL_law_165 : decode cL_law 165 = .ok (.invokevirtual 20, 3) := by decide +kernel
theorem dL_law_168 : decode cL_law 168 = .ok (.pop, 1) := by decide +kernel
theorem dL_law_169 : decode cL_law 169 = .ok (.aload_n 2, 1) := by decide +kernel
theorem dL_law_170 : decode cL_law 170 = .ok (.aload_n 0, 1) := by decide +kernel
theorem dL_law_171 : decode cL_law 171 = .ok (.iload_n 3, 1) := by decide +kernel
theorem dL_law_172 : decode cL_law 172 = .ok (.iconst 1, 1) := by decide +kernel
theorem dL_law_173 : decode cL_law 173 = .ok (.iadd, 1) := by decide +kernel
theorem dL_law_174 : decode cL_law 174 = .ok (.iaload, 1) := by decide +kernel
theorem dL_law_175 : decode cL_law 175 = .ok (.invokevirtual 24, 3) := by decide +kernel
theorem dL_law_178 : decode cL_law 178 = .ok (.pop, 1) := by decide +kernel
theorem dL_law_179 : decode cL_law 179 = .ok (.goto 283, 3) := by decide +kernel
theorem dL_law_182 : decode cL_law 182 = .ok (.aload_n 1, 1) := by decide +kernel
theorem dL_law_183 : decode cL_law 183 = .ok (.aload_n 0, 1) := by decide +kernel
theorem dL_law_184 : decode cL_law 184 = .ok (.iload_n 3, 1) := by decide +kernel
theorem dL_law_185 : decode cL_law 185 = .ok (.iconst 1, 1) := by decide +kernel
theorem dL_law_186 : decode cL_law 186 = .ok (.iadd, 1) := by decide +kernel
theorem dL_law_187 : decode cL_law 187 = .ok (.iaload, 1) := by decide +kernel
theorem dL_law_188 : decode cL_law 188 = .ok (.aload_n 0, 1) := by decide +kernel
theorem dL_law_189 : decode cL_law 189 = .ok (.iload_n 3, 1) := by decide +kernel
theorem dL_law_190 : decode cL_law 190 = .ok (.iconst 2, 1) := by decide +kernel
theorem dL_law_191 : decode cL_law 191 = .ok (.iadd, 1) := by decide +kernel
theorem dL_law_192 : decode cL_law 192 = .ok (.iaload, 1) := by decide +kernel
theorem dL_law_193 : decode cL_law 193 = .ok (.invokevirtual 25, 3) := by decide +kernel
theorem dL_law_196 : decode cL_law 196 = .ok (.aload_n 2, 1) := by decide +kernel
theorem dL_law_197 : decode cL_law 197 = .ok (.aload_n 0, 1) := by decide +kernel
theorem dL_law_198 : decode cL_law 198 = .ok (.iload_n 3, 1) := by decide +kernel
theorem dL_law_199 : decode cL_law 199 = .ok (.iconst 1, 1) := by decide +kernel
theorem dL_law_200 : decode cL_law 200 = .ok (.iadd, 1) := by decide +kernel
theorem dL_law_201 : decode cL_law 201 = .ok (.iaload, 1) := by decide +kernel
theorem dL_law_202 : decode cL_law 202 = .ok (.aload_n 0, 1) := by decide +kernel
theorem dL_law_203 : decode cL_law 203 = .ok (.iload_n 3, 1) := by decide +kernel
theorem dL_law_204 : decode cL_law 204 = .ok (.iconst 2, 1) := by decide +kernel
theorem dL_law_205 : decode cL_law 205 = .ok (.iadd, 1) := by decide +kernel
theorem dL_law_206 : decode cL_law 206 = .ok (.iaload, 1) := by decide +kernel
theorem dL_law_207 : decode cL_law 207 = .ok (.invokevirtual 29, 3) := by decide +kernel
theorem dL_law_210 : decode cL_law 210 = .ok (.if_icmp .eq 252, 3) := by decide +kernel
theorem dL_law_213 : decode cL_law 213 = .ok (.iconst 0, 1) := by decide +kernel
theorem dL_law_214 : decode cL_law 214 = .ok (.ireturn, 1) := by decide +kernel
theorem dL_law_215 : decode cL_law 215 = .ok (.aload_n 1, 1) := by decide +kernel
theorem dL_law_216 : decode cL_law 216 = .ok (.aload_n 0, 1) := by decide +kernel
theorem dL_law_217 : decode cL_law 217 = .ok (.iload_n 3, 1) := by decide +kernel
theorem dL_law_218 : decode cL_law 218 = .ok (.iconst 1, 1) := by decide +kernel
theorem dL_law_219 : decode cL_law 219 = .ok (.iadd, 1) := by decide +kernel
theorem dL_law_220 : decode cL_law 220 = .ok (.iaload, 1) := by decide +kernel
theorem dL_law_221 : decode cL_law 221 = .ok (.aload_n 0, 1) := by decide +kernel
theorem dL_law_222 : decode cL_law 222 = .ok (.iload_n 3, 1) := by decide +kernel
theorem dL_law_223 : decode cL_law 223 = .ok (.iconst 2, 1) := by decide +kernel
theorem dL_law_224 : decode cL_law 224 = .ok (.iadd, 1) := by decide +kernel
theorem dL_law_225 : decode cL_law 225 = .ok (.iaload, 1) := by decide +kernel
theorem dL_law_226 : decode cL_law 226 = .ok (.invokevirtual 30, 3) := by decide +kernel
theorem dL_law_229 : decode cL_law 229 = .ok (.pop, 1) := by decide +kernel
theorem dL_law_230 : decode cL_law 230 = .ok (.aload_n 2, 1) := by decide +kernel
theorem dL_law_231 : decode cL_law 231 = .ok (.aload_n 0, 1) := by decide +kernel
theorem dL_law_232 : decode cL_law 232 = .ok (.iload_n 3, 1) := by decide +kernel
theorem dL_law_233 : decode cL_law 233 = .ok (.iconst 1, 1) := by decide +kernel
theorem dL_law_234 : decode cL_law 234 = .ok (.iadd, 1) := by decide +kernel
theorem dL_law_235 : decode cL_law 235 = .ok (.iaload, 1) := by decide +kernel
theorem dL_law_236 : decode cL_law 236 = .ok (.aload_n 0, 1) := by decide +kernel
theorem dL_law_237 : decode cL_law 237 = .ok (.iload_n 3, 1) := by decide +kernel
theorem dL_law_238 : decode cL_law 238 = .ok (.iconst 2, 1) := by decide +kernel
theorem dL_law_239 : decode cL_law 239 = .ok (.iadd, 1) := by decide +kernel
theorem dL_law_240 : decode cL_law 240 = .ok (.iaload, 1) := by decide +kernel
theorem dL_law_241 : decode cL_law 241 = .ok (.invokevirtual 33, 3) := by decide +kernel
theorem dL_law_244 : decode cL_law 244 = .ok (.pop, 1) := by decide +kernel
theorem dL_law_245 : decode cL_law 245 = .ok (.goto 217, 3) := by decide +kernel
theorem dL_law_248 : decode cL_law 248 = .ok (.aload_n 1, 1) := by decide +kernel
theorem dL_law_249 : decode cL_law 249 = .ok (.aload_n 0, 1) := by decide +kernel
theorem dL_law_250 : decode cL_law 250 = .ok (.iload_n 3, 1) := by decide +kernel
theorem dL_law_251 : decode cL_law 251 = .ok (.iconst 1, 1) := by decide +kernel
theorem dL_law_252 : decode cL_law 252 = .ok (.iadd, 1) := by decide +kernel
theorem dL_law_253 : decode cL_law 253 = .ok (.iaload, 1) := by decide +kernel
theorem dL_law_254 : decode cL_law 254 = .ok (.invokevirtual 34, 3) := by decide +kernel
theorem dL_law_257 : decode cL_law 257 = .ok (.pop, 1) := by decide +kernel
theorem dL_law_258 : decode cL_law 258 = .ok (.aload_n 2, 1) := by decide +kernel
theorem dL_law_259 : decode cL_law 259 = .ok (.aload_n 0, 1) := by decide +kernel
theorem dL_law_260 : decode cL_law 260 = .ok (.iload_n 3, 1) := by decide +kernel
theorem dL_law_261 : decode cL_law 261 = .ok (.iconst 1, 1) := by decide +kernel
theorem dL_law_262 : decode cL_law 262 = .ok (.iadd, 1) := by decide +kernel
theorem dL_law_263 : decode cL_law 263 = .ok (.iaload, 1) := by decide +kernel
theorem dL_law_264 : decode cL_law 264 = .ok (.invokevirtual 37, 3) := by decide +kernel
theorem dL_law_267 : decode cL_law 267 = .ok (.pop, 1) := by decide +kernel
theorem dL_law_268 : decode cL_law 268 = .ok (.goto 194, 3) := by decide +kernel
theorem dL_law_271 : decode cL_law 271 = .ok (.aload_n 1, 1) := by decide +kernel
theorem dL_law_272 : decode cL_law 272 = .ok (.aload_n 0, 1) := by decide +kernel
theorem dL_law_273 : decode cL_law 273 = .ok (.iload_n 3, 1) := by decide +kernel
theorem dL_law_274 : decode cL_law 274 = .ok (.iconst 1, 1) := by decide +kernel
theorem dL_law_275 : decode cL_law 275 = .ok (.iadd, 1) := by decide +kernel
theorem dL_law_276 : decode cL_law 276 = .ok (.iaload, 1) := by decide +kernel
theorem dL_law_277 : decode cL_law 277 = .ok (.invokevirtual 38, 3) := by decide +kernel
theorem dL_law_280 : decode cL_law 280 = .ok (.pop, 1) := by decide +kernel
theorem dL_law_281 : decode cL_law 281 = .ok (.aload_n 2, 1) := by decide +kernel
theorem dL_law_282 : decode cL_law 282 = .ok (.aload_n 0, 1) := by decide +kernel
theorem dL_law_283 : decode cL_law 283 = .ok (.iload_n 3, 1) := by decide +kernel
theorem dL_law_284 : decode cL_law 284 = .ok (.iconst 1, 1) := by decide +kernel
theorem dL_law_285 : decode cL_law 285 = .ok (.iadd, 1) := by decide +kernel
theorem dL_law_286 : decode cL_law 286 = .ok (.iaload, 1) := by decide +kernel
theorem dL_law_287 : decode cL_law 287 = .ok (.invokevirtual 41, 3) := by decide +kernel
theorem dL_law_290 : decode cL_law 290 = .ok (.pop, 1) := by decide +kernel
theorem dL_law_291 : decode cL_law 291 = .ok (.goto 171, 3) := by decide +kernel
theorem dL_law_294 : decode cL_law 294 = .ok (.aload_n 1, 1) := by decide +kernel
theorem dL_law_295 : decode cL_law 295 = .ok (.aload_n 0, 1) := by decide +kernel
theorem dL_law_296 : decode cL_law 296 = .ok (.iload_n 3, 1) := by decide +kernel
theorem dL_law_297 : decode cL_law 297 = .ok (.iconst 1, 1) := by decide +kernel
theorem dL_law_298 : decode cL_law 298 = .ok (.iadd, 1) := by decide +kernel
theorem dL_law_299 : decode cL_law 299 = .ok (.iaload, 1) := by decide +kernel
theorem dL_law_300 : decode cL_law 300 = .ok (.aload_n 0, 1) := by decide +kernel
theorem dL_law_301 : decode cL_law 301 = .ok (.iload_n 3, 1) := by decide +kernel
theorem dL_law_302 : decode cL_law 302 = .ok (.iconst 2, 1) := by decide +kernel
theorem dL_law_303 : decode cL_law 303 = .ok (.iadd, 1) := by decide +kernel
theorem dL_law_304 : decode cL_law 304 = .ok (.iaload, 1) := by decide +kernel
theorem dL_law_305 : decode cL_law 305 = .ok (.invokevirtual 42, 3) := by decide +kernel
theorem dL_law_308 : decode cL_law 308 = .ok (.pop, 1) := by decide +kernel
theorem dL_law_309 : decode cL_law 309 = .ok (.aload_n 2, 1) := by decide +kernel
theorem dL_law_310 : decode cL_law 310 = .ok (.aload_n 0, 1) := by decide +kernel
theorem dL_law_311 : decode cL_law 311 = .ok (.iload_n 3, 1) := by decide +kernel
theorem dL_law_312 : decode cL_law 312 = .ok (.iconst 1, 1) := by decide +kernel
theorem dL_law_313 : decode cL_law 313 = .ok (.iadd, 1) := by decide +kernel
theorem dL_law_314 : decode cL_law 314 = .ok (.iaload, 1) := by decide +kernel
theorem dL_law_315 : decode cL_law 315 = .ok (.aload_n 0, 1) := by decide +kernel
theorem dL_law_316 : decode cL_law 316 = .ok (.iload_n 3, 1) := by decide +kernel
theorem dL_law_317 : decode cL_law 317 = .ok (.iconst 2, 1) := by decide +kernel
theorem dL_law_318 : decode cL_law 318 = .ok (.iadd, 1) := by decide +kernel
theorem dL_law_319 : decode cL_law 319 = .ok (.iaload, 1) := by decide +kernel
theorem dL_law_320 : decode cL_law 320 = .ok (.invokevirtual 45, 3) := by decide +kernel
theorem dL_law_323 : decode cL_law 323 = .ok (.pop, 1) := by decide +kernel
theorem dL_law_324 : decode cL_law 324 = .ok (.goto 138, 3) := by decide +kernel
theorem dL_law_327 : decode cL_law 327 = .ok (.aload_n 1, 1) := by decide +kernel
theorem dL_law_328 : decode cL_law 328 = .ok (.aload_n 0, 1) := by decide +kernel
theorem dL_law_329 : decode cL_law 329 = .ok (.iload_n 3, 1) := by decide +kernel
theorem dL_law_330 : decode cL_law 330 = .ok (.iconst 1, 1) := by decide +kernel
theorem dL_law_331 : decode cL_law 331 = .ok (.iadd, 1) := by decide +kernel
theorem dL_law_332 : decode cL_law 332 = .ok (.iaload, 1) := by decide +kernel
theorem dL_law_333 : decode cL_law 333 = .ok (.invokevirtual 46, 3) := by decide +kernel
theorem dL_law_336 : decode cL_law 336 = .ok (.pop, 1) := by decide +kernel
theorem dL_law_337 : decode cL_law 337 = .ok (.aload_n 2, 1) := by decide +kernel
theorem dL_law_338 : decode cL_law 338 = .ok (.aload_n 0, 1) := by decide +kernel
theorem dL_law_339 : decode cL_law 339 = .ok (.iload_n 3, 1) := by decide +kernel
theorem dL_law_340 : decode cL_law 340 = .ok (.iconst 1, 1) := by decide +kernel
theorem dL_law_341 : decode cL_law 341 = .ok (.iadd, 1) := by decide +kernel
theorem dL_law_342 : decode cL_law 342 = .ok (.iaload, 1) := by decide +kernel
theorem dL_law_343 : decode cL_law 343 = .ok (.invokevirtual 49, 3) := by decide +kernel
theorem dL_law_346 : decode cL_law 346 = .ok (.pop, 1) := by decide +kernel
theorem dL_law_347 : decode cL_law 347 = .ok (.goto 115, 3) := by decide +kernel
theorem dL_law_350 : decode cL_law 350 = .ok (.aload_n 1, 1) := by decide +kernel
theorem dL_law_351 : decode cL_law 351 = .ok (.aload_n 0, 1) := by decide +kernel
theorem dL_law_352 : decode cL_law 352 = .ok (.iload_n 3, 1) := by decide +kernel
theorem dL_law_353 : decode cL_law 353 = .ok (.iconst 1, 1) := by decide +kernel
theorem dL_law_354 : decode cL_law 354 = .ok (.iadd, 1) := by decide +kernel
theorem dL_law_355 : decode cL_law 355 = .ok (.iaload, 1) := by decide +kernel
theorem dL_law_356 : decode cL_law 356 = .ok (.invokevirtual 50, 3) := by decide +kernel
theorem dL_law_359 : decode cL_law 359 = .ok (.pop, 1) := by decide +kernel
theorem dL_law_360 : decode cL_law 360 = .ok (.aload_n 2, 1) := by decide +kernel
theorem dL_law_361 : decode cL_law 361 = .ok (.aload_n 0, 1) := by decide +kernel
theorem dL_law_362 : decode cL_law 362 = .ok (.iload_n 3, 1) := by decide +kernel
theorem dL_law_363 : decode cL_law 363 = .ok (.iconst 1, 1) := by decide +kernel
theorem dL_law_364 : decode cL_law 364 = .ok (.iadd, 1) := by decide +kernel
theorem dL_law_365 : decode cL_law 365 = .ok (.iaload, 1) := by decide +kernel
theorem dL_law_366 : decode cL_law 366 = .ok (.invokevirtual 53, 3) := by decide +kernel
theorem dL_law_369 : decode cL_law 369 = .ok (.pop, 1) := by decide +kernel
theorem dL_law_370 : decode cL_law 370 = .ok (.goto 92, 3) := by decide +kernel
theorem dL_law_373 : decode cL_law 373 = .ok (.aload_n 1, 1) := by decide +kernel
theorem dL_law_374 : decode cL_law 374 = .ok (.aload_n 0, 1) := by decide +kernel
theorem dL_law_375 : decode cL_law 375 = .ok (.iload_n 3, 1) := by decide +kernel
theorem dL_law_376 : decode cL_law 376 = .ok (.iconst 1, 1) := by decide +kernel
theorem dL_law_377 : decode cL_law 377 = .ok (.iadd, 1) := by decide +kernel
theorem dL_law_378 : decode cL_law 378 = .ok (.iaload, 1) := by decide +kernel
theorem dL_law_379 : decode cL_law 379 = .ok (.aload_n 0, 1) := by decide +kernel
theorem dL_law_380 : decode cL_law 380 = .ok (.iload_n 3, 1) := by decide +kernel
theorem dL_law_381 : decode cL_law 381 = .ok (.iconst 2, 1) := by decide +kernel
theorem dL_law_382 : decode cL_law 382 = .ok (.iadd, 1) := by decide +kernel
theorem dL_law_383 : decode cL_law 383 = .ok (.iaload, 1) := by decide +kernel
theorem dL_law_384 : decode cL_law 384 = .ok (.invokevirtual 54, 3) := by decide +kernel
theorem dL_law_387 : decode cL_law 387 = .ok (.pop, 1) := by decide +kernel
theorem dL_law_388 : decode cL_law 388 = .ok (.aload_n 2, 1) := by decide +kernel
theorem dL_law_389 : decode cL_law 389 = .ok (.aload_n 0, 1) := by decide +kernel
theorem dL_law_390 : decode cL_law 390 = .ok (.iload_n 3, 1) := by decide +kernel
theorem dL_law_391 : decode cL_law 391 = .ok (.iconst 1, 1) := by decide +kernel
theorem dL_law_392 : decode cL_law 392 = .ok (.iadd, 1) := by decide +kernel
theorem dL_law_393 : decode cL_law 393 = .ok (.iaload, 1) := by decide +kernel
theorem dL_law_394 : decode cL_law 394 = .ok (.aload_n 0, 1) := by decide +kernel
theorem dL_law_395 : decode cL_law 395 = .ok (.iload_n 3, 1) := by decide +kernel
theorem dL_law_396 : decode cL_law 396 = .ok (.iconst 2, 1) := by decide +kernel
theorem dL_law_397 : decode cL_law 397 = .ok (.iadd, 1) := by decide +kernel
theorem dL_law_398 : decode cL_law 398 = .ok (.iaload, 1) := by decide +kernel
theorem dL_law_399 : decode cL_law 399 = .ok (.invokevirtual 57, 3) := by decide +kernel
theorem dL_law_402 : decode cL_law 402 = .ok (.pop, 1) := by decide +kernel
theorem dL_law_403 : decode cL_law 403 = .ok (.goto 59, 3) := by decide +kernel
theorem dL_law_406 : decode cL_law 406 = .ok (.aload_n 1, 1) := by decide +kernel
theorem dL_law_407 : decode cL_law 407 = .ok (.aload_n 0, 1) := by decide +kernel
theorem dL_law_408 : decode cL_law 408 = .ok (.iload_n 3, 1) := by decide +kernel
theorem dL_law_409 : decode cL_law 409 = .ok (.iconst 1, 1) := by decide +kernel
theorem dL_law_410 : decode cL_law 410 = .ok (.iadd, 1) := by decide +kernel
theorem dL_law_411 : decode cL_law 411 = .ok (.iaload, 1) := by decide +kernel
theorem dL_law_412 : decode cL_law 412 = .ok (.aload_n 0, 1) := by decide +kernel
theorem dL_law_413 : decode cL_law 413 = .ok (.iload_n 3, 1) := by decide +kernel
theorem dL_law_414 : decode cL_law 414 = .ok (.iconst 2, 1) := by decide +kernel
theorem dL_law_415 : decode cL_law 415 = .ok (.iadd, 1) := by decide +kernel
theorem dL_law_416 : decode cL_law 416 = .ok (.iaload, 1) := by decide +kernel
theorem dL_law_417 : decode cL_law 417 = .ok (.aload_n 0, 1) := by decide +kernel
theorem dL_law_418 : decode cL_law 418 = .ok (.iload_n 3, 1) := by decide +kernel
theorem dL_law_419 : decode cL_law 419 = .ok (.iconst 3, 1) := by decide +kernel
theorem dL_law_420 : decode cL_law 420 = .ok (.iadd, 1) := by decide +kernel
theorem dL_law_421 : decode cL_law 421 = .ok (.iaload, 1) := by decide +kernel
theorem dL_law_422 : decode cL_law 422 = .ok (.invokevirtual 58, 3) := by decide +kernel
theorem dL_law_425 : decode cL_law 425 = .ok (.pop, 1) := by decide +kernel
theorem dL_law_426 : decode cL_law 426 = .ok (.aload_n 2, 1) := by decide +kernel
theorem dL_law_427 : decode cL_law 427 = .ok (.aload_n 0, 1) := by decide +kernel
theorem dL_law_428 : decode cL_law 428 = .ok (.iload_n 3, 1) := by decide +kernel
theorem dL_law_429 : decode cL_law 429 = .ok (.iconst 1, 1) := by decide +kernel
theorem dL_law_430 : decode cL_law 430 = .ok (.iadd, 1) := by decide +kernel
theorem dL_law_431 : decode cL_law 431 = .ok (.iaload, 1) := by decide +kernel
theorem dL_law_432 : decode cL_law 432 = .ok (.aload_n 0, 1) := by decide +kernel
theorem dL_law_433 : decode cL_law 433 = .ok (.iload_n 3, 1) := by decide +kernel
theorem dL_law_434 : decode cL_law 434 = .ok (.iconst 2, 1) := by decide +kernel
theorem dL_law_435 : decode cL_law 435 = .ok (.iadd, 1) := by decide +kernel
theorem dL_law_436 : decode cL_law 436 = .ok (.iaload, 1) := by decide +kernel
theorem dL_law_437 : decode cL_law 437 = .ok (.aload_n 0, 1) := by decide +kernel
theorem dL_law_438 : decode cL_law 438 = .ok (.iload_n 3, 1) := by decide +kernel
theorem dL_law_439 : decode cL_law 439 = .ok (.iconst 3, 1) := by decide +kernel
theorem dL_law_440 : decode cL_law 440 = .ok (.iadd, 1) := by decide +kernel
theorem dL_law_441 : decode cL_law 441 = .ok (.iaload, 1) := by decide +kernel
theorem dL_law_442 : decode cL_law 442 = .ok (.invokevirtual 62, 3) := by decide +kernel
theorem dL_law_445 : decode cL_law 445 = .ok (.pop, 1) := by decide +kernel
theorem dL_law_446 : decode cL_law 446 = .ok (.goto 16, 3) := by decide +kernel
theorem dL_law_449 : decode cL_law 449 = .ok (.aload_n 1, 1) := by decide +kernel
theorem dL_law_450 : decode cL_law 450 = .ok (.invokevirtual 63, 3) := by decide +kernel
theorem dL_law_453 : decode cL_law 453 = .ok (.pop, 1) := by decide +kernel
theorem dL_law_454 : decode cL_law 454 = .ok (.aload_n 2, 1) := by decide +kernel
theorem dL_law_455 : decode cL_law 455 = .ok (.invokevirtual 67, 3) := by decide +kernel
theorem dL_law_458 : decode cL_law 458 = .ok (.pop, 1) := by decide +kernel
theorem dL_law_459 : decode cL_law 459 = .ok (.goto 3, 3) := by decide +kernel
theorem dL_law_462 : decode cL_law 462 = .ok (.iinc 3 4, 3) := by decide +kernel
theorem dL_law_465 : decode cL_law 465 = .ok (.goto (-447), 3) := by decide +kernel
theorem dL_law_468 : decode cL_law 468 = .ok (.iconst 1, 1) := by decide +kernel
theorem dL_law_469 : decode cL_law 469 = .ok (.ireturn, 1) := by decide +kernel
abbrev vwCl : List vw_C := [(RX0, TX0, 2), (RX1, TX1, 2), (RX2, TX2, 4), (RX3, TX3, 2), (RX4, TX4, 6), (RX5, TX5, 3), (RX6, TX6, 12), (RX7, TX7, 24)]
end
section
/-! KINDS OF CELLS. 1 the book, 2 Contents, 3 FrameReader, 4 SentFrame, 5..8 Port 0..3, 9 Neighbor, 10 Neighbors, 11 the model; 12.. arrays; 31.. what is being made -/
abbrev RPort : String := RX4
abbrev RNeighbor : String := RX2
def hk_b : List (Nat × Nat × Nat) := [(0, 0, 0), (1, 6, 12), (1, 0, 2), (1, 1, 2), (1, 5, 3), (1, 4, 6), (1, 4, 6), (1, 4, 6), (1, 4, 6), (1, 2, 4), (1, 3, 2), (1, 7, 24),
  (2, 1, 700), (2, 0, 9), (2, 1, 420), (2, 3, 4), (2, 4, 12), (2, 1, 439), (2, 1, 540), (2, 0, 9), (2, 2, 4), (2, 0, 4), (2, 0, 4), (2, 0, 4), (2, 0, 4), (2, 0, 4), (2, 0, 13), (2, 0, 13), (2, 1, 7020), (2, 0, 117),
  (0, 0, 0), (1, 0, 2), (1, 0, 2), (1, 1, 2), (1, 5, 3), (1, 5, 3), (1, 2, 4), (1, 3, 2), (0, 0, 0), (0, 0, 0)]
def hk_t (kd : Nat) : Nat × Nat × Nat := if kd < 40 then hk_b.getD kd (0, 0, 0) else if kd < 60 then (2, 4, 12) else if kd < 80 then (1, 3, 2) else if kd < 100 then (2, 3, 4) else if kd < 200 then (1, 6, 12) else (1, 7, 24)
def hk_P : List (Nat × Nat) := [(0, 0), (0, 0), (0, 0), (0, 0), (0, 0), (0, 0)]
def hk_B : List (Nat × Nat) := [(4, 12), (0, 0), (4, 2), (4, 15), (4, 10), (4, 3), (4, 4), (1, 0), (1, 0), (1, 0), (0, 0), (0, 0)]
def hk_Mo : List (Nat × Nat) := [(4, 12), (0, 0), (4, 18), (4, 19), (1, 0), (1, 0), (1, 0), (4, 20), (4, 21), (4, 22), (4, 23), (4, 24), (4, 25), (0, 0), (4, 26), (4, 27), (4, 27), (4, 28), (4, 29), (0, 0), (0, 0), (4, 12), (0, 0), (0, 0)]
/-- a kind's slots, and what all slots behind them hold: (0) the exact number, (1) any int, (2, h) 0..h, (3, h) -1..h, (4, kd) a cell of kind kd, (5) a byte, (7) anything -/
def hk_l : List (List (Nat × Nat) × (Nat × Nat)) := [([], (7, 0)), (hk_B, (7, 0)), ([(4, 13), (4, 14)], (7, 0)), ([(4, 2), (1, 0)], (7, 0)), ([(4, 17), (0, 0), (0, 0)], (7, 0)), (hk_P, (7, 0)), (hk_P, (7, 0)), (hk_P, (7, 0)), (hk_P, (7, 0)),
  ([(4, 2), (1, 0), (1, 0), (1, 0)], (7, 0)), ([(4, 16), (0, 0)], (7, 0)), (hk_Mo, (7, 0)),
  ([], (5, 0)), ([(3, 0), (3, 60), (3, 60), (3, 0)], (3, 60)), ([], (5, 0)), ([(4, 5), (4, 6), (4, 7), (4, 8)], (7, 0)), ([], (4, 9)), ([], (5, 0)), ([], (5, 0)), ([], (3, 60)), ([], (0, 0)), ([], (0, 0)), ([], (0, 0)), ([], (0, 0)), ([], (0, 0)), ([], (0, 0)), ([], (2, 3)), ([], (1, 0)), ([], (5, 0)), ([], (3, 60)),
  ([], (7, 0)), ([], (7, 0)), ([(4, 13)], (7, 0)), ([(7, 0), (1, 0)], (7, 0)), ([(7, 0), (2, 0), (1, 0)], (7, 0)), ([(4, 17), (2, 0), (1, 0)], (7, 0)), ([(7, 0), (1, 0), (1, 0), (1, 0)], (7, 0)), ([(7, 0), (2, 0)], (7, 0))]
/-- the n-th making of the book's fields: the refs in the order in which they are set -/
def hk_Bs (n i : Nat) : List (Nat × Nat) := [if 1 ≤ n then (4, 12) else (7, 0), (2, 0), if 2 ≤ n then (4, 2) else (7, 0), if 3 ≤ n then (4, 80 + i) else (7, 0), if 4 ≤ n then (4, 10) else (7, 0), if 5 ≤ n then (4, 3) else (7, 0), if 6 ≤ n then (4, 4) else (7, 0), (1, 0), (1, 0), (1, 0), (2, 0), (2, 0)]
def hk_Ms (n : Nat) : List (Nat × Nat) := [if 1 ≤ n then (4, 12) else (7, 0), (2, 0), if 2 ≤ n then (4, 18) else (7, 0), if 3 ≤ n then (4, 19) else (7, 0), (1, 0), (1, 0), (1, 0), if 4 ≤ n then (4, 20) else (7, 0), if 5 ≤ n then (4, 21) else (7, 0), if 6 ≤ n then (4, 22) else (7, 0), if 7 ≤ n then (4, 23) else (7, 0), if 8 ≤ n then (4, 24) else (7, 0), if 9 ≤ n then (4, 25) else (7, 0), (2, 0), if 10 ≤ n then (4, 26) else (7, 0), if 11 ≤ n then (4, 27) else (7, 0), if 12 ≤ n then (4, 27) else (7, 0), if 13 ≤ n then (4, 28) else (7, 0), if 14 ≤ n then (4, 29) else (7, 0), (2, 0), (2, 0), if 15 ≤ n then (4, 12) else (7, 0), (2, 0), (1, 0)]
def hk_s (kd k : Nat) : Nat × Nat :=
  if kd < 40 then (hk_l.getD kd ([], (7, 0))).1.getD k (hk_l.getD kd ([], (7, 0))).2
  else if kd < 60 then (if k < kd - 40 then (4, 9) else (7, 0))
  else if kd < 80 then ([(4, kd - 20), (2, 0)] : List (Nat × Nat)).getD k (7, 0)
  else if kd < 100 then (if k < kd - 80 then (4, 5 + k) else (7, 0))
  else if kd < 110 then (hk_Bs (kd - 100) 0).getD k (7, 0)
  else if kd < 200 then (hk_Bs 6 (kd - 110)).getD k (7, 0)
  else (hk_Ms (kd - 200)).getD k (7, 0)
def hk_x (kd : Nat) : Bool := [1, 4, 5, 6, 7, 8, 10, 11, 20, 21, 22, 23, 24, 25].contains kd
theorem hk_t5 {q : Nat} (h : q < 4) : hk_t (5 + q) = (1, 4, 6) := by
  match q, h with
  | 0, _ => rfl
  | 1, _ => rfl
  | 2, _ => rfl
  | 3, _ => rfl
theorem hk_s5 {q k : Nat} (h : q < 4) (hk : k < 6) : hk_s (5 + q) k = (0, 0) := by
  match q, h with
  | 0, _ => match k, hk with | 0, _ => rfl | 1, _ => rfl | 2, _ => rfl | 3, _ => rfl | 4, _ => rfl | 5, _ => rfl
  | 1, _ => match k, hk with | 0, _ => rfl | 1, _ => rfl | 2, _ => rfl | 3, _ => rfl | 4, _ => rfl | 5, _ => rfl
  | 2, _ => match k, hk with | 0, _ => rfl | 1, _ => rfl | 2, _ => rfl | 3, _ => rfl | 4, _ => rfl | 5, _ => rfl
  | 3, _ => match k, hk with | 0, _ => rfl | 1, _ => rfl | 2, _ => rfl | 3, _ => rfl | 4, _ => rfl | 5, _ => rfl
theorem hk_x5 {q : Nat} (h : q < 4) : hk_x (5 + q) = true := by
  match q, h with
  | 0, _ => rfl
  | 1, _ => rfl
  | 2, _ => rfl
  | 3, _ => rfl
theorem hk_s15 {q : Nat} (h : q < 4) : hk_s 15 q = (4, 5 + q) := by
  match q, h with
  | 0, _ => rfl
  | 1, _ => rfl
  | 2, _ => rfl
  | 3, _ => rfl
theorem hk_s13 {q : Nat} (h : q < 9) : hk_s 13 q = if q = 0 ∨ q = 3 then (3, 0) else (3, 60) := by
  match q, h with
  | 0, _ => rfl
  | 1, _ => rfl
  | 2, _ => rfl
  | 3, _ => rfl
  | 4, _ => rfl
  | 5, _ => rfl
  | 6, _ => rfl
  | 7, _ => rfl
  | 8, _ => rfl
/-- which exact numbers an inner method of the class (of the model) may change -/
def hx_c (a b : Nat) : Bool := (a == 1 && (b == 10 || b == 11)) || a == 4 || (decide (5 ≤ a) && decide (a ≤ 8) && b != 0) || a == 10
def hx_m (a b : Nat) : Bool := (a == 11 && (b == 13 || b == 19 || b == 20 || b == 22 || b == 23)) || (decide (21 ≤ a) && decide (a ≤ 25))
def hx_C (a _b : Nat) : Bool := decide (a ≤ 10)
def hx_M (a _b : Nat) : Bool := decide (11 ≤ a)
def hg_P (f : Nat → Nat → Bool) (g g' : Nat → Nat → Int) : Prop := ∀ a b : Nat, f a b = false → g' a b = g a b
theorem hg_P.rf {f : Nat → Nat → Bool} {g : Nat → Nat → Int} : hg_P f g g := fun _ _ _ => rfl
theorem hg_P.tr {f : Nat → Nat → Bool} {g g1 g2 : Nat → Nat → Int} (h : hg_P f g g1) (h' : hg_P f g1 g2) : hg_P f g g2 := fun a b hf => (h' a b hf).trans (h a b hf)
theorem hg_P.put {f : Nat → Nat → Bool} {g g1 g2 : Nat → Nat → Int} {kd k : Nat} (h : hg_P f g g1) (h' : ∀ a b : Nat, ¬ (a = kd ∧ b = k) → g2 a b = g1 a b) (hf : f kd k = true) : hg_P f g g2 := fun a b hab => (h' a b (fun q => by rw [q.1, q.2, hf] at hab; cases hab)).trans (h a b hab)
theorem hg_P.le {f f' : Nat → Nat → Bool} {g g' : Nat → Nat → Int} (h : hg_P f g g') (hl : ∀ a b, f' a b = false → f a b = false) : hg_P f' g g' := fun a b hab => h a b (hl a b hab)
theorem hx_c5 {q k : Nat} (h : q < 4) (hk : k ≠ 0) : hx_c (5 + q) k = true := by
  match q, h with
  | 0, _ => simp [hx_c, hk]
  | 1, _ => simp [hx_c, hk]
  | 2, _ => simp [hx_c, hk]
  | 3, _ => simp [hx_c, hk]
theorem hx_c50 {q : Nat} (h : q < 4) : hx_c (5 + q) 0 = false := by
  match q, h with
  | 0, _ => rfl
  | 1, _ => rfl
  | 2, _ => rfl
  | 3, _ => rfl
theorem hx_C5 {q k : Nat} (h : q < 4) : hx_C (5 + q) k = true := by
  simp only [hx_C, decide_eq_true_eq]
  omega
theorem hx_M5 {q k : Nat} (h : q < 4) : hx_M (5 + q) k = false := by
  simp only [hx_M, decide_eq_false_iff_not]
  omega
theorem hx_cC (a b : Nat) (h : hx_C a b = false) : hx_c a b = false := by
  simp only [hx_C, decide_eq_false_iff_not] at h
  simp only [hx_c, Bool.or_eq_false_iff, Bool.and_eq_false_imp, beq_eq_false_iff_ne, beq_iff_eq, Bool.and_eq_true, decide_eq_true_eq]
  refine ⟨⟨⟨fun q => by omega, by omega⟩, fun q => by omega⟩, by omega⟩
theorem hx_mM (a b : Nat) (h : hx_M a b = false) : hx_m a b = false := by
  simp only [hx_M, decide_eq_false_iff_not] at h
  simp only [hx_m, Bool.or_eq_false_iff, Bool.and_eq_false_imp, beq_eq_false_iff_ne, beq_iff_eq, decide_eq_true_eq, decide_eq_false_iff_not]
  refine ⟨fun q => by omega, fun q => by omega⟩
def hx_d (a b : Nat) : Bool := hx_c a b || (a == 1 && b == 1)
def hx_e (a b : Nat) : Bool := hx_m a b || (a == 11 && b == 1)
theorem hx_cd (a b : Nat) (h : hx_d a b = false) : hx_c a b = false := (Bool.or_eq_false_iff.mp h).1
theorem hx_me (a b : Nat) (h : hx_e a b = false) : hx_m a b = false := (Bool.or_eq_false_iff.mp h).1
theorem hx_d50 {q : Nat} (h : q < 4) : hx_d (5 + q) 0 = false := by
  match q, h with
  | 0, _ => rfl
  | 1, _ => rfl
  | 2, _ => rfl
  | 3, _ => rfl
theorem hx_dC (a b : Nat) (h : hx_C a b = false) : hx_d a b = false := by
  have h1 := hx_cC a b h
  simp only [hx_C, decide_eq_false_iff_not] at h
  simp only [hx_d, h1, Bool.false_or, Bool.and_eq_false_imp, beq_iff_eq, beq_eq_false_iff_ne]
  intro q
  omega
theorem hx_eM (a b : Nat) (h : hx_M a b = false) : hx_e a b = false := by
  have h1 := hx_mM a b h
  simp only [hx_M, decide_eq_false_iff_not] at h
  simp only [hx_e, h1, Bool.false_or, Bool.and_eq_false_imp, beq_iff_eq, beq_eq_false_iff_ne]
  intro q
  omega
/-- what the exact numbers always keep to -/
def hg_k (g : Nat → Nat → Int) : Prop := (0 ≤ g 1 1 ∧ g 1 1 ≤ 700) ∧ (0 ≤ g 10 1 ∧ g 10 1 ≤ 12) ∧ (0 ≤ g 4 1 ∧ g 4 1 ≤ 439) ∧ (0 ≤ g 11 1 ∧ g 11 1 ≤ 700) ∧ (0 ≤ g 11 13 ∧ g 11 13 ≤ 12) ∧ (0 ≤ g 11 22 ∧ g 11 22 ≤ 700) ∧ (∀ q : Nat, q < 4 → g (5 + q) 0 = 0 ∨ g (5 + q) 0 = 1) ∧ ∀ q : Nat, q < 4 → g 20 q = 0 ∨ g 20 q = 1
theorem hg_k.ofc {g g' : Nat → Nat → Int} (h : hg_k g) (hP : hg_P hx_c g g') (b1 : 0 ≤ g' 10 1 ∧ g' 10 1 ≤ 12) (b2 : 0 ≤ g' 4 1 ∧ g' 4 1 ≤ 439) : hg_k g' := by
  obtain ⟨h1, h2, h3, h4, h5, h6, h7, h8⟩ := h
  refine ⟨?_, b1, b2, ?_, ?_, ?_, fun q hq => ?_, fun q hq => ?_⟩
  · rw [hP 1 1 rfl]; exact h1
  · rw [hP 11 1 rfl]; exact h4
  · rw [hP 11 13 rfl]; exact h5
  · rw [hP 11 22 rfl]; exact h6
  · rw [hP (5 + q) 0 (hx_c50 hq)]; exact h7 q hq
  · rw [hP 20 q rfl]; exact h8 q hq
theorem hg_k.ofm {g g' : Nat → Nat → Int} (h : hg_k g) (hP : hg_P hx_m g g') (b1 : 0 ≤ g' 11 13 ∧ g' 11 13 ≤ 12) (b2 : 0 ≤ g' 11 22 ∧ g' 11 22 ≤ 700) : hg_k g' := by
  obtain ⟨h1, h2, h3, h4, h5, h6, h7, h8⟩ := h
  refine ⟨?_, ?_, ?_, ?_, b1, b2, fun q hq => ?_, fun q hq => ?_⟩
  · rw [hP 1 1 rfl]; exact h1
  · rw [hP 10 1 rfl]; exact h2
  · rw [hP 4 1 rfl]; exact h3
  · rw [hP 11 1 rfl]; exact h4
  · rw [hP (5 + q) 0 (hx_mM _ _ (hx_M5 hq))]; exact h7 q hq
  · rw [hP 20 q rfl]; exact h8 q hq
theorem hg_k.ofd {g g' : Nat → Nat → Int} (h : hg_k g) (hP : hg_P hx_d g g') (b0 : 0 ≤ g' 1 1 ∧ g' 1 1 ≤ 700) (b1 : 0 ≤ g' 10 1 ∧ g' 10 1 ≤ 12) (b2 : 0 ≤ g' 4 1 ∧ g' 4 1 ≤ 439) : hg_k g' := by
  obtain ⟨h1, h2, h3, h4, h5, h6, h7, h8⟩ := h
  refine ⟨b0, b1, b2, ?_, ?_, ?_, fun q hq => ?_, fun q hq => ?_⟩
  · rw [hP 11 1 rfl]; exact h4
  · rw [hP 11 13 rfl]; exact h5
  · rw [hP 11 22 rfl]; exact h6
  · rw [hP (5 + q) 0 (hx_d50 hq)]; exact h7 q hq
  · rw [hP 20 q rfl]; exact h8 q hq
theorem hg_k.ofe {g g' : Nat → Nat → Int} (h : hg_k g) (hP : hg_P hx_e g g') (b0 : 0 ≤ g' 11 1 ∧ g' 11 1 ≤ 700) (b1 : 0 ≤ g' 11 13 ∧ g' 11 13 ≤ 12) (b2 : 0 ≤ g' 11 22 ∧ g' 11 22 ≤ 700) : hg_k g' := by
  obtain ⟨h1, h2, h3, h4, h5, h6, h7, h8⟩ := h
  refine ⟨?_, ?_, ?_, b0, b1, b2, fun q hq => ?_, fun q hq => ?_⟩
  · rw [hP 1 1 rfl]; exact h1
  · rw [hP 10 1 rfl]; exact h2
  · rw [hP 4 1 rfl]; exact h3
  · rw [hP (5 + q) 0 (hx_eM _ _ (hx_M5 hq))]; exact h7 q hq
  · rw [hP 20 q rfl]; exact h8 q hq
theorem hg_k.ofp {g g' : Nat → Nat → Int} (h : hg_k g) (hP : hg_P hx_C g g') (e1 : g' 1 1 = g 1 1) (e2 : g' 10 1 = g 10 1) (e3 : g' 4 1 = g 4 1) (h5 : ∀ j : Nat, j < 4 → g' (5 + j) 0 = 0 ∨ g' (5 + j) 0 = 1) : hg_k g' := by
  obtain ⟨h1, h2, h3, h4, h4', h6, h7, h8⟩ := h
  refine ⟨?_, ?_, ?_, ?_, ?_, ?_, h5, fun q hq => ?_⟩
  · rw [e1]; exact h1
  · rw [e2]; exact h2
  · rw [e3]; exact h3
  · rw [hP 11 1 rfl]; exact h4
  · rw [hP 11 13 rfl]; exact h4'
  · rw [hP 11 22 rfl]; exact h6
  · rw [hP 20 q rfl]; exact h8 q hq
theorem hg_k.ofq {g g' : Nat → Nat → Int} (h : hg_k g) (hP : hg_P hx_M g g') (e1 : g' 11 1 = g 11 1) (b1 : 0 ≤ g' 11 13 ∧ g' 11 13 ≤ 12) (b2 : 0 ≤ g' 11 22 ∧ g' 11 22 ≤ 700) (h5 : ∀ j : Nat, j < 4 → g' 20 j = 0 ∨ g' 20 j = 1) : hg_k g' := by
  obtain ⟨h1, h2, h3, h4, h4', h6, h7, h8⟩ := h
  refine ⟨?_, ?_, ?_, ?_, b1, b2, fun q hq => ?_, h5⟩
  · rw [hP 1 1 rfl]; exact h1
  · rw [hP 10 1 rfl]; exact h2
  · rw [hP 4 1 rfl]; exact h3
  · rw [e1]; exact h4
  · rw [hP (5 + q) 0 (hx_M5 hq)]; exact h7 q hq
/-- the links of private methods of nest mates: (own, index, method, host) -/
def hp_nl : List (String × Nat × MethodName × String) := [(RX3, 17, yX2_init, RX6), (RX6, 35, yX1_init, RX6), (RX6, 42, yX5_init, RX6), (RX6, 57, yX4_init, RX6), (RX0, 22, yX6_isMore, RX6), (RX1, 44, yX6_isMore, RX6)]
def hp_N (U : State) : Prop := ∀ q ∈ hp_nl, va_Nw (.methodLinkNest q.1 q.2.1 q.2.2.1 q.2.2.2) U
theorem hp_N.same {u U : State} (h : u.vm = U.vm) (hN : hp_N u) : hp_N U := fun q hq => va_Nw.same rfl h (hN q hq)
theorem hp_N.warm {s U : State} (hw : s.WarmedH U.vm) (hN : hp_N s) : hp_N U := fun q hq => va_Nw.warmM hw (hN q hq)
end
section
/-! THE HEAP AS A MEMORY: F a k is the value of slot k of the cell at a; κ a is the kind of the cell at a (0: none of ours); g kd k is the number that an exact slot of a kind holds. -/
abbrev hp_F : Type := Nat → Nat → Value
abbrev hp_A (B : Nat) : Nat → Prop := fun q => B ≤ q
def hs_i (e : Int) (sp : Nat × Nat) (x : Int) : Prop := match sp.1 with
  | 0 => x = e
  | 1 => True
  | 2 => 0 ≤ x ∧ x ≤ (sp.2 : Int)
  | 3 => -1 ≤ x ∧ x ≤ (sp.2 : Int)
  | 5 => -128 ≤ x ∧ x ≤ 127
  | _ => False
def hs_ok (κ : Nat → Nat) (e : Int) (sp : Nat × Nat) (v : Value) : Prop := match sp.1 with
  | 4 => ∃ b : Nat, v = .ref b ∧ κ b = sp.2
  | 7 => True
  | _ => ∃ x : Int32, v = .int x ∧ hs_i e sp x.toInt
def hs_n (sp : Nat × Nat) : Bool := match sp.1 with
  | 4 => false
  | 7 => false
  | _ => true
theorem hs_ok_i {κ : Nat → Nat} {e : Int} {sp : Nat × Nat} {v : Value} (hn : hs_n sp = true) (h : hs_ok κ e sp v) : ∃ x : Int32, v = .int x ∧ hs_i e sp x.toInt := by
  obtain ⟨a, b⟩ := sp
  match a, hn, h with
  | 0, _, h => exact h
  | 1, _, h => exact h
  | 2, _, h => exact h
  | 3, _, h => exact h
  | 5, _, h => exact h
  | 6, _, h => exact h
  | n + 8, _, h => exact h
theorem hs_i_ok {κ : Nat → Nat} {e : Int} {sp : Nat × Nat} {x : Int32} (hn : hs_n sp = true) (h : hs_i e sp x.toInt) : hs_ok κ e sp (.int x) := by
  obtain ⟨a, b⟩ := sp
  match a, hn, h with
  | 0, _, h => exact ⟨x, rfl, h⟩
  | 1, _, h => exact ⟨x, rfl, h⟩
  | 2, _, h => exact ⟨x, rfl, h⟩
  | 3, _, h => exact ⟨x, rfl, h⟩
  | 5, _, h => exact ⟨x, rfl, h⟩
  | 6, _, h => exact ⟨x, rfl, h⟩
  | n + 8, _, h => exact ⟨x, rfl, h⟩
def hp_at (dC : Nat → ClassId) (dI : Nat → Nat → Nat) (dA : Nat → ClassId) (q : Nat × Nat × Nat) (V : Nat → Value) (a : Nat) (H : Heap) : Prop := match q.1 with
  | 0 => True
  | 1 => t_OB a (dC q.2.1) q.2.2 (dI q.2.1) H V
  | _ => H[a]? = some (arrV (dA q.2.1) q.2.2 V)
theorem hp_at.kept {dC : Nat → ClassId} {dI : Nat → Nat → Nat} {dA : Nat → ClassId} {q : Nat × Nat × Nat} {V : Nat → Value} {a : Nat} {H H1 : Heap} (h : hp_at dC dI dA q V a H) (hq : H1[a]? = H[a]?) : hp_at dC dI dA q V a H1 := by
  obtain ⟨x, y, z⟩ := q
  match x, h with
  | 0, _ => exact trivial
  | 1, h => exact t_OB.kept h hq
  | n + 2, h => exact hq.trans h
def hp_M (dC : Nat → ClassId) (dI : Nat → Nat → Nat) (dA : Nat → ClassId) (κ : Nat → Nat) (F : hp_F) (H : Heap) : Prop := ∀ a : Nat, hp_at dC dI dA (hk_t (κ a)) (F a) a H
def hp_O (κ : Nat → Nat) (g : Nat → Nat → Int) (F : hp_F) : Prop := ∀ a k : Nat, k < (hk_t (κ a)).2.2 → hs_ok κ (g (κ a) k) (hk_s (κ a) k) (F a k)
def hp_W (κ : Nat → Nat) (B : Nat) : Prop := (∀ a : Nat, κ a ≠ 0 → B ≤ a) ∧ ∀ a b : Nat, hk_x (κ a) = true → κ a = κ b → a = b
def hp_u (F : hp_F) (a k : Nat) (v : Value) : hp_F := fun b => if b = a then updV (F b) k v else F b
def hp_ug (g : Nat → Nat → Int) (kd k : Nat) (x : Int) : Nat → Nat → Int := fun a b => if a = kd ∧ b = k then x else g a b
theorem hp_ug_s (g : Nat → Nat → Int) (kd k : Nat) (x : Int) : hp_ug g kd k x kd k = x := if_pos ⟨rfl, rfl⟩
theorem hp_ug_n {g : Nat → Nat → Int} {kd k a b : Nat} {x : Int} (h : ¬ (a = kd ∧ b = k)) : hp_ug g kd k x a b = g a b := if_neg h
theorem hp_set {dC : Nat → ClassId} {dI : Nat → Nat → Nat} {dA : Nat → ClassId} {κ : Nat → Nat} {F : hp_F} {H H1 : Heap} {a k : Nat} {v : Value} (hM : hp_M dC dI dA κ F H) (hat : hp_at dC dI dA (hk_t (κ a)) (updV (F a) k v) a H1) (oq : ∀ q : Nat, q ≠ a → H1[q]? = H[q]?) : hp_M dC dI dA κ (hp_u F a k v) H1 := by
  intro b
  by_cases hb : b = a
  · subst hb
    unfold hp_u
    rw [if_pos rfl]
    exact hat
  · unfold hp_u
    rw [if_neg hb]
    exact (hM b).kept (oq b hb)
theorem hp_setO {κ : Nat → Nat} {g : Nat → Nat → Int} {F : hp_F} {a k : Nat} {v : Value} (hO : hp_O κ g F) (hv : hs_ok κ (g (κ a) k) (hk_s (κ a) k) v) : hp_O κ g (hp_u F a k v) := by
  intro b j hj
  by_cases hb : b = a
  · subst hb
    unfold hp_u
    rw [if_pos rfl]
    by_cases hk : j = k
    · subst hk
      unfold updV
      rw [if_pos rfl]
      exact hv
    · unfold updV
      rw [if_neg hk]
      exact hO b j hj
  · unfold hp_u
    rw [if_neg hb]
    exact hO b j hj
theorem hp_setX {κ : Nat → Nat} {g : Nat → Nat → Int} {F : hp_F} {B a k kd : Nat} {v : Value} {x : Int} (hO : hp_O κ g F) (hW : hp_W κ B) (hκ : κ a = kd) (hx : hk_x kd = true) (hv : hs_ok κ x (hk_s kd k) v) : hp_O κ (hp_ug g kd k x) (hp_u F a k v) := by
  intro b j hj
  by_cases hb : b = a
  · subst hb
    unfold hp_u
    rw [if_pos rfl]
    by_cases hk : j = k
    · subst hk
      unfold updV
      rw [if_pos rfl, hκ, hp_ug_s]
      exact hv
    · unfold updV
      rw [if_neg hk, hp_ug_n (fun q => hk q.2)]
      exact hO b j hj
  · have hne : ¬ κ b = kd := fun q => hb (hW.2 b a (by rw [q]; exact hx) (by rw [q, hκ]))
    unfold hp_u
    rw [if_neg hb, hp_ug_n (fun q => hne q.1)]
    exact hO b j hj
/-- the world between two instructions: the memory holds in the heap H, and nothing below B was written since H0 -/
def hp_J (dC : Nat → ClassId) (dI : Nat → Nat → Nat) (dA : Nat → ClassId) (κ : Nat → Nat) (B : Nat) (g : Nat → Nat → Int) (H0 H : Heap) (locs : List Loc) : Prop := (∃ F : hp_F, hp_M dC dI dA κ F H ∧ hp_O κ g F) ∧ va_S (hp_A B) H0 H locs
def hp_ty (dA : Nat → ClassId) : List (ClassId × FieldType) := [(dA 0, .int), (dA 1, .byte), (dA 2, .boolean), (dA 3, .object RPort), (dA 4, .object RNeighbor)]
/-- a state with the world κ, g behind B -/
def hp_S (dC : Nat → ClassId) (dI : Nat → Nat → Nat) (dA : Nat → ClassId) (κ : Nat → Nat) (B : Nat) (g : Nat → Nat → Int) (U : State) : Prop := va_K (dC, dI) vwCl (hp_ty dA) U ∧ hp_N U ∧ hp_W κ B ∧ ∃ F : hp_F, hp_M dC dI dA κ F U.heap ∧ hp_O κ g F
theorem hp_S.moved {dC : Nat → ClassId} {dI : Nat → Nat → Nat} {dA : Nat → ClassId} {κ : Nat → Nat} {B : Nat} {g : Nat → Nat → Int} {u U : State} (hh : U.heap = u.heap) (hvm : u.vm.Alike U.vm) (hN : hp_N U) (h : hp_S dC dI dA κ B g u) : hp_S dC dI dA κ B g U := by
  obtain ⟨h1, -, h2, h3⟩ := h
  refine ⟨va_K.moved hvm h1, hN, h2, ?_⟩
  rw [hh]
  exact h3
theorem hi_lt {x y : Int32} : (x < y) ↔ x.toInt < y.toInt := Int32.lt_iff_toInt_lt
theorem hi_le {x y : Int32} : (x ≤ y) ↔ x.toInt ≤ y.toInt := Int32.le_iff_toInt_le
theorem hi_eq {x y : Int32} : (x = y) ↔ x.toInt = y.toInt := Int32.toInt_inj.symm
theorem hi_cl {x : Int32} (h : 0 ≤ x.toInt) : ((x.toNatClampNeg : Nat) : Int) = x.toInt := by
  show ((x.toInt.toNat : Nat) : Int) = x.toInt
  omega
theorem hi_0 : (0 : Int32).toInt = 0 := rfl
theorem hi_in {i : Int32} {n : Nat} (h0 : 0 ≤ i.toInt) (h1 : i.toInt < n) : vp_in i n := vp_in_iff.mpr ⟨h0, h1⟩
theorem hi_lo (x : Int32) : -2147483648 ≤ x.toInt := Int32.le_toInt x
theorem hi_hi (x : Int32) : x.toInt ≤ 2147483647 := by
  have := Int32.toInt_lt x
  omega
theorem hi_bm {z : Int} (h1 : -2147483648 ≤ z) (h2 : z ≤ 2147483647) : z.bmod (2 ^ 32) = z := by
  rw [Int.bmod_def]; omega
theorem hi_add {x y : Int32} (h1 : -2147483648 ≤ x.toInt + y.toInt) (h2 : x.toInt + y.toInt ≤ 2147483647) : (x + y).toInt = x.toInt + y.toInt := by rw [Int32.toInt_add, hi_bm h1 h2]
theorem hi_sub {x y : Int32} (h1 : -2147483648 ≤ x.toInt - y.toInt) (h2 : x.toInt - y.toInt ≤ 2147483647) : (x - y).toInt = x.toInt - y.toInt := by rw [Int32.toInt_sub, hi_bm h1 h2]
theorem hi_mul {x y : Int32} {z : Int} (hz : x.toInt * y.toInt = z) (h1 : -2147483648 ≤ z) (h2 : z ≤ 2147483647) : (x * y).toInt = z := by rw [Int32.toInt_mul, hz, hi_bm h1 h2]
theorem hi_ofInt {n : Int} (h1 : -2147483648 ≤ n) (h2 : n ≤ 2147483647) : (Int32.ofInt n).toInt = n := Int32.toInt_ofInt_of_le (by omega) (by omega)
theorem hp_S.of {dC : Nat → ClassId} {dI : Nat → Nat → Nat} {dA : Nat → ClassId} {κ : Nat → Nat} {B : Nat} {g : Nat → Nat → Int} {H0 H : Heap} {locs : List Loc} {s t : State} (hK : va_K (dC, dI) vwCl (hp_ty dA) s) (hN : hp_N s) (hW : hp_W κ B) (hJ : hp_J dC dI dA κ B g H0 H locs) (ht : t.heap = H) (hw : s.WarmedH t.vm) : hp_S dC dI dA κ B g t := by
  refine ⟨va_K.moved hw.alike hK, hp_N.warm hw hN, hW, ?_⟩
  rw [ht]
  exact hJ.1
abbrev hp_Pre (dC : Nat → ClassId) (dI : Nat → Nat → Nat) (dA : Nat → ClassId) (κ : Nat → Nat) (B : Nat) (g : Nat → Nat → Int) (av : List Value) : Array Value → State → Prop := va_Pc av (hp_S dC dI dA κ B g)
abbrev hp_Qi (dC : Nat → ClassId) (dI : Nat → Nat → Nat) (dA : Nat → ClassId) (κ : Nat → Nat) (B : Nat) (post : Int32 → (Nat → Nat → Int) → Prop) : Array Value → State → Outcome → State → Prop := va_Qi post (fun u t => hp_S dC dI dA κ B u t) (hp_A B)
abbrev hp_Qv (dC : Nat → ClassId) (dI : Nat → Nat → Nat) (dA : Nat → ClassId) (κ : Nat → Nat) (B : Nat) (post : (Nat → Nat → Int) → Prop) : Array Value → State → Outcome → State → Prop := va_Qv post (fun u t => hp_S dC dI dA κ B u t) (hp_A B)
abbrev hp_Qr (dC : Nat → ClassId) (dI : Nat → Nat → Nat) (dA : Nat → ClassId) (κ : Nat → Nat) (B : Nat) (kd : Nat) (post : (Nat → Nat → Int) → Prop) : Array Value → State → Outcome → State → Prop := va_Qr post (fun u a t => hp_S dC dI dA κ B u t ∧ κ a = kd) (hp_A B)
theorem hp_blind {dC : Nat → ClassId} {dI : Nat → Nat → Nat} {dA : Nat → ClassId} {κ : Nat → Nat} {B : Nat} {g : Nat → Nat → Int} {av : List Value} : FrameBlind (hp_Pre dC dI dA κ B g av) := by
  intro a U f mk h
  obtain ⟨h0, h1, h2, h3, h4⟩ := h
  exact ⟨h0, va_K.moved (u := U) (U := U.calling f mk a) (Vm.Alike.refl U.vm) h1, hp_N.same rfl h2, h3, h4⟩
theorem hp_preS {dC : Nat → ClassId} {dI : Nat → Nat → Nat} {dA : Nat → ClassId} {κ : Nat → Nat} {B : Nat} {g : Nat → Nat → Int} {H0 H : Heap} {locs : List Loc} {s : State} (As : List Value) (hK : va_K (dC, dI) vwCl (hp_ty dA) s) (hN : hp_N s) (hW : hp_W κ B) (hJ : hp_J dC dI dA κ B g H0 H locs) : PreS s H (hp_Pre dC dI dA κ B g As) As :=
  ⟨hp_blind, fun _ hU hw => ⟨rfl, hp_S.of hK hN hW hJ hU hw⟩⟩
theorem hp_preV {dC : Nat → ClassId} {dI : Nat → Nat → Nat} {dA : Nat → ClassId} {κ : Nat → Nat} {B : Nat} {g : Nat → Nat → Int} {H0 H : Heap} {locs : List Loc} {s : State} {b kd ci N : Nat} {q : vw_C} (As : List Value) (hK : va_K (dC, dI) vwCl (hp_ty dA) s) (hN : hp_N s) (hW : hp_W κ B) (hJ : hp_J dC dI dA κ B g H0 H locs) (hκ : κ b = kd) (ht : hk_t kd = (1, ci, N)) (hc : vwCl[ci]? = some q) : PreV s H q.1 b (hp_Pre dC dI dA κ B g (.ref b :: As)) As := by
  refine ⟨hp_blind, ?_, fun _ hU hw => ⟨rfl, hp_S.of hK hN hW hJ hU hw⟩⟩
  obtain ⟨⟨F, hM, -⟩, -⟩ := hJ
  have h := hM b
  rw [hκ, ht] at h
  obtain ⟨cell, h1, h2, h3, -⟩ := (show t_OB b (dC ci) N (dI ci) H (F b) from h)
  exact ⟨cell, h1, by rw [h3]; rfl, by rw [h2]; exact (hK.1 ci q hc).2.1⟩
theorem hi_and {x y : Int32} {k : Nat} {n : Int} (hy : y.toInt = n) (hn : n = 2 ^ k - 1) (hk : k ≤ 30) : 0 ≤ (x &&& y).toInt ∧ (x &&& y).toInt ≤ n := by
  have h30 : (2 : Int) ^ k ≤ 2 ^ 30 := by exact_mod_cast Nat.pow_le_pow_right (by decide : 0 < 2) hk
  have h1 : (1 : Int) ≤ 2 ^ k := by exact_mod_cast Nat.one_le_two_pow
  have h6 : (2 : Nat) ^ k ≤ 2 ^ 30 := Nat.pow_le_pow_right (by decide) hk
  have h4 : ((2 ^ k - 1 : Nat) : Int) = 2 ^ k - 1 := by
    rw [Int.natCast_sub Nat.one_le_two_pow]; simp
  have hb : y.toBitVec.toNat = 2 ^ k - 1 := by
    have hy2 : y = nI (2 ^ k - 1) := hi_eq.mpr (by rw [hy, hn, nI_toInt (by omega), h4])
    rw [hy2, pk_tn (by omega)]
  have h := pk_and x k hb
  rw [h]
  have hlt : x.toBitVec.toNat % 2 ^ k < 2 ^ k := Nat.mod_lt _ (Nat.two_pow_pos k)
  have h5 : ((2 ^ k : Nat) : Int) = 2 ^ k := by simp
  rw [nI_toInt (by omega)]
  omega
theorem hs13_n (c : Prop) [Decidable c] : hs_n (if c then (3, 0) else (3, 60)) = true := by split <;> rfl
theorem hs13_i {e : Int} {q : Nat} {x : Int} (h : hs_i e (if q = 0 ∨ q = 3 then (3, 0) else (3, 60)) x) : -1 ≤ x ∧ x ≤ 60 ∧ (0 < x → q ≠ 0 ∧ q ≠ 3) := by
  split at h
  · have h : -1 ≤ x ∧ x ≤ ((0 : Nat) : Int) := h
    omega
  · have h : -1 ≤ x ∧ x ≤ ((60 : Nat) : Int) := h
    omega
theorem hs13_o {e : Int} {q : Nat} {x : Int} (h : -1 ≤ x ∧ x ≤ 60) (h2 : 0 < x → q ≠ 0 ∧ q ≠ 3) : hs_i e (if q = 0 ∨ q = 3 then (3, 0) else (3, 60)) x := by
  split
  · show -1 ≤ x ∧ x ≤ ((0 : Nat) : Int)
    omega
  · show -1 ≤ x ∧ x ≤ ((60 : Nat) : Int)
    omega
theorem hi_bool {v : Int32} (h : v.toInt = 0 ∨ v.toInt = 1) : narrow .boolean (.int v) = .int v := by
  rcases h with h | h
  · rw [show v = 0 from hi_eq.mpr h]; rfl
  · rw [show v = 1 from hi_eq.mpr h]; rfl
section HPW
variable {p : Program} {l : Launch} {e : Env} {R : Room} {s : State} {m : MethodId} {args : Array Value} {below : List Frame} {meth : Method} {c : Code} {H : Heap} {locs : List Loc} {cells slots : Nat} {Q : State → Prop}
variable {cc : ByteArray} {pc : Nat} {ls : Array Slot} {rest st0 : List Value}
variable {dC : Nat → ClassId} {dI : Nat → Nat → Nat} {dA : Nat → ClassId} {κ : Nat → Nat} {B : Nat} {g : Nat → Nat → Int} {H0 : Heap} {a : Nat}
-- numbers
theorem hq_iconst (hx : p.tables.exec = Jvm.exec) (hb : c.code = cc) {n : Int} (hdg : decode cc pc = .ok (.iconst n, 1)) (h1 : -2147483648 ≤ n) (h2 : n ≤ 2147483647)
    (kk : ∀ z : Int32, z.toInt = n → W p l e R s m args below meth c H locs cells slots Q (F0 m (pc + 1) ls (.int z :: rest))) : W p l e R s m args below meth c H locs cells slots Q (F0 m (pc) ls (rest)) := lv_iconst hx hb hdg rfl (kk _ (hi_ofInt h1 h2))
theorem hq_bipush (hx : p.tables.exec = Jvm.exec) (hb : c.code = cc) {n : Int} (hdg : decode cc pc = .ok (.bipush n, 2)) (h1 : (Int8.ofInt n).toInt32.toInt = n)
    (kk : ∀ z : Int32, z.toInt = n → W p l e R s m args below meth c H locs cells slots Q (F0 m (pc + 2) ls (.int z :: rest))) : W p l e R s m args below meth c H locs cells slots Q (F0 m (pc) ls (rest)) := lv_bipush hx hb hdg rfl (kk _ h1)
theorem hq_sipush (hx : p.tables.exec = Jvm.exec) (hb : c.code = cc) {n : Int} (hdg : decode cc pc = .ok (.sipush n, 3)) (h1 : (Int16.ofInt n).toInt32.toInt = n)
    (kk : ∀ z : Int32, z.toInt = n → W p l e R s m args below meth c H locs cells slots Q (F0 m (pc + 3) ls (.int z :: rest))) : W p l e R s m args below meth c H locs cells slots Q (F0 m (pc) ls (rest)) := lv_sipush hx hb hdg rfl (kk _ h1)
theorem hq_iadd (hx : p.tables.exec = Jvm.exec) (hb : c.code = cc) {x y : Int32} (hdg : decode cc pc = .ok (.iadd, 1)) (h1 : -2147483648 ≤ x.toInt + y.toInt) (h2 : x.toInt + y.toInt ≤ 2147483647)
    (kk : ∀ z : Int32, z.toInt = x.toInt + y.toInt → W p l e R s m args below meth c H locs cells slots Q (F0 m (pc + 1) ls (.int z :: rest))) : W p l e R s m args below meth c H locs cells slots Q (F0 m (pc) ls (.int y :: .int x :: rest)) := lv_iadd hx hb hdg (kk _ (hi_add h1 h2))
theorem hq_isub (hx : p.tables.exec = Jvm.exec) (hb : c.code = cc) {x y : Int32} (hdg : decode cc pc = .ok (.isub, 1)) (h1 : -2147483648 ≤ x.toInt - y.toInt) (h2 : x.toInt - y.toInt ≤ 2147483647)
    (kk : ∀ z : Int32, z.toInt = x.toInt - y.toInt → W p l e R s m args below meth c H locs cells slots Q (F0 m (pc + 1) ls (.int z :: rest))) : W p l e R s m args below meth c H locs cells slots Q (F0 m (pc) ls (.int y :: .int x :: rest)) := lv_isub hx hb hdg (kk _ (hi_sub h1 h2))
theorem hq_imul (hx : p.tables.exec = Jvm.exec) (hb : c.code = cc) {x y : Int32} (hdg : decode cc pc = .ok (.imul, 1)) {w : Int} (hw : x.toInt * y.toInt = w) (h1 : -2147483648 ≤ w) (h2 : w ≤ 2147483647)
    (kk : ∀ z : Int32, z.toInt = w → W p l e R s m args below meth c H locs cells slots Q (F0 m (pc + 1) ls (.int z :: rest))) : W p l e R s m args below meth c H locs cells slots Q (F0 m (pc) ls (.int y :: .int x :: rest)) := lv_imul hx hb hdg (kk _ (hi_mul hw h1 h2))
theorem hq_iaddU (hx : p.tables.exec = Jvm.exec) (hb : c.code = cc) {x y : Int32} (hdg : decode cc pc = .ok (.iadd, 1))
    (kk : ∀ z : Int32, W p l e R s m args below meth c H locs cells slots Q (F0 m (pc + 1) ls (.int z :: rest))) : W p l e R s m args below meth c H locs cells slots Q (F0 m (pc) ls (.int y :: .int x :: rest)) := lv_iadd hx hb hdg (kk _)
theorem hq_isubU (hx : p.tables.exec = Jvm.exec) (hb : c.code = cc) {x y : Int32} (hdg : decode cc pc = .ok (.isub, 1))
    (kk : ∀ z : Int32, W p l e R s m args below meth c H locs cells slots Q (F0 m (pc + 1) ls (.int z :: rest))) : W p l e R s m args below meth c H locs cells slots Q (F0 m (pc) ls (.int y :: .int x :: rest)) := lv_isub hx hb hdg (kk _)
theorem hq_imulU (hx : p.tables.exec = Jvm.exec) (hb : c.code = cc) {x y : Int32} (hdg : decode cc pc = .ok (.imul, 1))
    (kk : ∀ z : Int32, W p l e R s m args below meth c H locs cells slots Q (F0 m (pc + 1) ls (.int z :: rest))) : W p l e R s m args below meth c H locs cells slots Q (F0 m (pc) ls (.int y :: .int x :: rest)) := lv_imul hx hb hdg (kk _)
theorem hq_iandU (hx : p.tables.exec = Jvm.exec) (hb : c.code = cc) {x y : Int32} (hdg : decode cc pc = .ok (.iand, 1))
    (kk : ∀ z : Int32, W p l e R s m args below meth c H locs cells slots Q (F0 m (pc + 1) ls (.int z :: rest))) : W p l e R s m args below meth c H locs cells slots Q (F0 m (pc) ls (.int y :: .int x :: rest)) := lv_iand hx hb hdg (kk _)
theorem hq_iorU (hx : p.tables.exec = Jvm.exec) (hb : c.code = cc) {x y : Int32} (hdg : decode cc pc = .ok (.ior, 1))
    (kk : ∀ z : Int32, W p l e R s m args below meth c H locs cells slots Q (F0 m (pc + 1) ls (.int z :: rest))) : W p l e R s m args below meth c H locs cells slots Q (F0 m (pc) ls (.int y :: .int x :: rest)) := lv_ior hx hb hdg (kk _)
theorem hq_ixorU (hx : p.tables.exec = Jvm.exec) (hb : c.code = cc) {x y : Int32} (hdg : decode cc pc = .ok (.ixor, 1))
    (kk : ∀ z : Int32, W p l e R s m args below meth c H locs cells slots Q (F0 m (pc + 1) ls (.int z :: rest))) : W p l e R s m args below meth c H locs cells slots Q (F0 m (pc) ls (.int y :: .int x :: rest)) := lv_ixor hx hb hdg (kk _)
theorem hq_ishlU (hx : p.tables.exec = Jvm.exec) (hb : c.code = cc) {x y : Int32} (hdg : decode cc pc = .ok (.ishl, 1))
    (kk : ∀ z : Int32, W p l e R s m args below meth c H locs cells slots Q (F0 m (pc + 1) ls (.int z :: rest))) : W p l e R s m args below meth c H locs cells slots Q (F0 m (pc) ls (.int y :: .int x :: rest)) := lv_ishl hx hb hdg (kk _)
theorem hq_ishrU (hx : p.tables.exec = Jvm.exec) (hb : c.code = cc) {x y : Int32} (hdg : decode cc pc = .ok (.ishr, 1))
    (kk : ∀ z : Int32, W p l e R s m args below meth c H locs cells slots Q (F0 m (pc + 1) ls (.int z :: rest))) : W p l e R s m args below meth c H locs cells slots Q (F0 m (pc) ls (.int y :: .int x :: rest)) := lv_ishr hx hb hdg (kk _)
theorem hq_i2b (hx : p.tables.exec = Jvm.exec) (hb : c.code = cc) {x : Int32} (hdg : decode cc pc = .ok (.i2b, 1))
    (kk : ∀ z : Int32, W p l e R s m args below meth c H locs cells slots Q (F0 m (pc + 1) ls (.int z :: rest))) : W p l e R s m args below meth c H locs cells slots Q (F0 m (pc) ls (.int x :: rest)) := lv_i2b hx hb hdg rfl (kk _)
theorem hq_iinc (hx : p.tables.exec = Jvm.exec) (hb : c.code = cc) {i nL k : Nat} {n : Int} {x : Int32} {lv : List (Nat × Value)} {lv' : Int32 → List (Nat × Value)} (hdg : decode cc pc = .ok (.iinc i n, 3)) (h : lv_has ls nL lv) (hk : lv[k]? = some (i, .int x)) (h1 : -2147483648 ≤ n) (h2 : n ≤ 2147483647) (h3 : -2147483648 ≤ x.toInt + n) (h4 : x.toInt + n ≤ 2147483647) (hn : i < nL) (hl : ∀ v : Int32, (i, Value.int v) :: lv.filter (fun q => !(q.1 == i) && !(q.1 + 1 == i && q.2.category == 2)) = lv' v)
    (kk : ∀ (z : Int32) (ls' : Array Slot), z.toInt = x.toInt + n → lv_has ls' nL (lv' z) → W p l e R s m args below meth c H locs cells slots Q (F0 m (pc + 3) ls' (rest))) : W p l e R s m args below meth c H locs cells slots Q (F0 m (pc) ls (rest)) := lv_iinc hx hb hdg h hk rfl hn (hl _) (fun ls' h' => kk _ ls' (by rw [hi_add (by rw [hi_ofInt h1 h2]; exact h3) (by rw [hi_ofInt h1 h2]; exact h4), hi_ofInt h1 h2]) h')
theorem hq_iincU (hx : p.tables.exec = Jvm.exec) (hb : c.code = cc) {i nL k : Nat} {n : Int} {x : Int32} {lv : List (Nat × Value)} {lv' : Int32 → List (Nat × Value)} (hdg : decode cc pc = .ok (.iinc i n, 3)) (h : lv_has ls nL lv) (hk : lv[k]? = some (i, .int x)) (hn : i < nL) (hl : ∀ v : Int32, (i, Value.int v) :: lv.filter (fun q => !(q.1 == i) && !(q.1 + 1 == i && q.2.category == 2)) = lv' v)
    (kk : ∀ (z : Int32) (ls' : Array Slot), lv_has ls' nL (lv' z) → W p l e R s m args below meth c H locs cells slots Q (F0 m (pc + 3) ls' (rest))) : W p l e R s m args below meth c H locs cells slots Q (F0 m (pc) ls (rest)) := lv_iinc hx hb hdg h hk rfl hn (hl _) (fun ls' h' => kk _ ls' h')
-- branches
theorem hq_icmp_eq (hx : p.tables.exec = Jvm.exec) (hb : c.code = cc) {x y : Int32} {off : Int} {tgt : Nat} (hdg : decode cc pc = .ok (.if_icmp .eq off, 3)) (ht : (pc : Int) + off = (tgt : Int))
    (kt : x.toInt = y.toInt → W p l e R s m args below meth c H locs cells slots Q (F0 m (tgt) ls (rest))) (kf : ¬ x.toInt = y.toInt → W p l e R s m args below meth c H locs cells slots Q (F0 m (pc + 3) ls (rest))) : W p l e R s m args below meth c H locs cells slots Q (F0 m (pc) ls (.int y :: .int x :: rest)) := lv_icmp_eq hx hb hdg ht (fun h => kt (hi_eq.mp h)) (fun h => kf (fun q => h (hi_eq.mpr q)))
theorem hq_if_eq (hx : p.tables.exec = Jvm.exec) (hb : c.code = cc) {x : Int32} {off : Int} {tgt : Nat} (hdg : decode cc pc = .ok (.ifCond .eq off, 3)) (ht : (pc : Int) + off = (tgt : Int))
    (kt : x.toInt = 0 → W p l e R s m args below meth c H locs cells slots Q (F0 m (tgt) ls (rest))) (kf : ¬ x.toInt = 0 → W p l e R s m args below meth c H locs cells slots Q (F0 m (pc + 3) ls (rest))) : W p l e R s m args below meth c H locs cells slots Q (F0 m (pc) ls (.int x :: rest)) := lv_if_eq hx hb hdg ht (fun h => kt (hi_eq.mp h)) (fun h => kf (fun q => h (hi_eq.mpr q)))
theorem hq_icmp_ne (hx : p.tables.exec = Jvm.exec) (hb : c.code = cc) {x y : Int32} {off : Int} {tgt : Nat} (hdg : decode cc pc = .ok (.if_icmp .ne off, 3)) (ht : (pc : Int) + off = (tgt : Int))
    (kt : ¬ x.toInt = y.toInt → W p l e R s m args below meth c H locs cells slots Q (F0 m (tgt) ls (rest))) (kf : x.toInt = y.toInt → W p l e R s m args below meth c H locs cells slots Q (F0 m (pc + 3) ls (rest))) : W p l e R s m args below meth c H locs cells slots Q (F0 m (pc) ls (.int y :: .int x :: rest)) := lv_icmp_ne hx hb hdg ht (fun h => kt (fun q => h (hi_eq.mpr q))) (fun h => kf (hi_eq.mp h))
theorem hq_if_ne (hx : p.tables.exec = Jvm.exec) (hb : c.code = cc) {x : Int32} {off : Int} {tgt : Nat} (hdg : decode cc pc = .ok (.ifCond .ne off, 3)) (ht : (pc : Int) + off = (tgt : Int))
    (kt : ¬ x.toInt = 0 → W p l e R s m args below meth c H locs cells slots Q (F0 m (tgt) ls (rest))) (kf : x.toInt = 0 → W p l e R s m args below meth c H locs cells slots Q (F0 m (pc + 3) ls (rest))) : W p l e R s m args below meth c H locs cells slots Q (F0 m (pc) ls (.int x :: rest)) := lv_if_ne hx hb hdg ht (fun h => kt (fun q => h (hi_eq.mpr q))) (fun h => kf (hi_eq.mp h))
theorem hq_icmp_lt (hx : p.tables.exec = Jvm.exec) (hb : c.code = cc) {x y : Int32} {off : Int} {tgt : Nat} (hdg : decode cc pc = .ok (.if_icmp .lt off, 3)) (ht : (pc : Int) + off = (tgt : Int))
    (kt : x.toInt < y.toInt → W p l e R s m args below meth c H locs cells slots Q (F0 m (tgt) ls (rest))) (kf : y.toInt ≤ x.toInt → W p l e R s m args below meth c H locs cells slots Q (F0 m (pc + 3) ls (rest))) : W p l e R s m args below meth c H locs cells slots Q (F0 m (pc) ls (.int y :: .int x :: rest)) := lv_icmp_lt hx hb hdg ht (fun h => kt (hi_lt.mp h)) (fun h => kf (Int.not_lt.mp (fun q => h (hi_lt.mpr q))))
theorem hq_if_lt (hx : p.tables.exec = Jvm.exec) (hb : c.code = cc) {x : Int32} {off : Int} {tgt : Nat} (hdg : decode cc pc = .ok (.ifCond .lt off, 3)) (ht : (pc : Int) + off = (tgt : Int))
    (kt : x.toInt < 0 → W p l e R s m args below meth c H locs cells slots Q (F0 m (tgt) ls (rest))) (kf : 0 ≤ x.toInt → W p l e R s m args below meth c H locs cells slots Q (F0 m (pc + 3) ls (rest))) : W p l e R s m args below meth c H locs cells slots Q (F0 m (pc) ls (.int x :: rest)) := lv_if_lt hx hb hdg ht (fun h => kt (hi_lt.mp h)) (fun h => kf (Int.not_lt.mp (fun q => h (hi_lt.mpr q))))
theorem hq_icmp_ge (hx : p.tables.exec = Jvm.exec) (hb : c.code = cc) {x y : Int32} {off : Int} {tgt : Nat} (hdg : decode cc pc = .ok (.if_icmp .ge off, 3)) (ht : (pc : Int) + off = (tgt : Int))
    (kt : y.toInt ≤ x.toInt → W p l e R s m args below meth c H locs cells slots Q (F0 m (tgt) ls (rest))) (kf : x.toInt < y.toInt → W p l e R s m args below meth c H locs cells slots Q (F0 m (pc + 3) ls (rest))) : W p l e R s m args below meth c H locs cells slots Q (F0 m (pc) ls (.int y :: .int x :: rest)) := lv_icmp_ge hx hb hdg ht (fun h => kt (hi_le.mp h)) (fun h => kf (Int.not_le.mp (fun q => h (hi_le.mpr q))))
theorem hq_if_ge (hx : p.tables.exec = Jvm.exec) (hb : c.code = cc) {x : Int32} {off : Int} {tgt : Nat} (hdg : decode cc pc = .ok (.ifCond .ge off, 3)) (ht : (pc : Int) + off = (tgt : Int))
    (kt : 0 ≤ x.toInt → W p l e R s m args below meth c H locs cells slots Q (F0 m (tgt) ls (rest))) (kf : x.toInt < 0 → W p l e R s m args below meth c H locs cells slots Q (F0 m (pc + 3) ls (rest))) : W p l e R s m args below meth c H locs cells slots Q (F0 m (pc) ls (.int x :: rest)) := lv_if_ge hx hb hdg ht (fun h => kt (hi_le.mp h)) (fun h => kf (Int.not_le.mp (fun q => h (hi_le.mpr q))))
theorem hq_icmp_gt (hx : p.tables.exec = Jvm.exec) (hb : c.code = cc) {x y : Int32} {off : Int} {tgt : Nat} (hdg : decode cc pc = .ok (.if_icmp .gt off, 3)) (ht : (pc : Int) + off = (tgt : Int))
    (kt : y.toInt < x.toInt → W p l e R s m args below meth c H locs cells slots Q (F0 m (tgt) ls (rest))) (kf : x.toInt ≤ y.toInt → W p l e R s m args below meth c H locs cells slots Q (F0 m (pc + 3) ls (rest))) : W p l e R s m args below meth c H locs cells slots Q (F0 m (pc) ls (.int y :: .int x :: rest)) := lv_icmp_gt hx hb hdg ht (fun h => kt (hi_lt.mp h)) (fun h => kf (Int.not_lt.mp (fun q => h (hi_lt.mpr q))))
theorem hq_if_gt (hx : p.tables.exec = Jvm.exec) (hb : c.code = cc) {x : Int32} {off : Int} {tgt : Nat} (hdg : decode cc pc = .ok (.ifCond .gt off, 3)) (ht : (pc : Int) + off = (tgt : Int))
    (kt : 0 < x.toInt → W p l e R s m args below meth c H locs cells slots Q (F0 m (tgt) ls (rest))) (kf : x.toInt ≤ 0 → W p l e R s m args below meth c H locs cells slots Q (F0 m (pc + 3) ls (rest))) : W p l e R s m args below meth c H locs cells slots Q (F0 m (pc) ls (.int x :: rest)) := lv_if_gt hx hb hdg ht (fun h => kt (hi_lt.mp h)) (fun h => kf (Int.not_lt.mp (fun q => h (hi_lt.mpr q))))
theorem hq_icmp_le (hx : p.tables.exec = Jvm.exec) (hb : c.code = cc) {x y : Int32} {off : Int} {tgt : Nat} (hdg : decode cc pc = .ok (.if_icmp .le off, 3)) (ht : (pc : Int) + off = (tgt : Int))
    (kt : x.toInt ≤ y.toInt → W p l e R s m args below meth c H locs cells slots Q (F0 m (tgt) ls (rest))) (kf : y.toInt < x.toInt → W p l e R s m args below meth c H locs cells slots Q (F0 m (pc + 3) ls (rest))) : W p l e R s m args below meth c H locs cells slots Q (F0 m (pc) ls (.int y :: .int x :: rest)) := lv_icmp_le hx hb hdg ht (fun h => kt (hi_le.mp h)) (fun h => kf (Int.not_le.mp (fun q => h (hi_le.mpr q))))
theorem hq_if_le (hx : p.tables.exec = Jvm.exec) (hb : c.code = cc) {x : Int32} {off : Int} {tgt : Nat} (hdg : decode cc pc = .ok (.ifCond .le off, 3)) (ht : (pc : Int) + off = (tgt : Int))
    (kt : x.toInt ≤ 0 → W p l e R s m args below meth c H locs cells slots Q (F0 m (tgt) ls (rest))) (kf : 0 < x.toInt → W p l e R s m args below meth c H locs cells slots Q (F0 m (pc + 3) ls (rest))) : W p l e R s m args below meth c H locs cells slots Q (F0 m (pc) ls (.int x :: rest)) := lv_if_le hx hb hdg ht (fun h => kt (hi_le.mp h)) (fun h => kf (Int.not_le.mp (fun q => h (hi_le.mpr q))))
theorem hq_iandm (hx : p.tables.exec = Jvm.exec) (hb : c.code = cc) {x y : Int32} {k : Nat} {n : Int} (hdg : decode cc pc = .ok (.iand, 1)) (hy : y.toInt = n) (hn : n = 2 ^ k - 1 ∧ k ≤ 30)
    (kk : ∀ z : Int32, 0 ≤ z.toInt ∧ z.toInt ≤ n → W p l e R s m args below meth c H locs cells slots Q (F0 m (pc + 1) ls (.int z :: rest))) : W p l e R s m args below meth c H locs cells slots Q (F0 m (pc) ls (.int y :: .int x :: rest)) := lv_iand hx hb hdg (kk _ (hi_and hy hn.1 hn.2))
-- fields
theorem hp_getv (hx : p.tables.exec = Jvm.exec) (hb : c.code = cc) {own ref C : String} {T : u_T} {N ci index kd : Nat} {Ts : List Cond} (hts : ∀ w ∈ Ts, w.before args s = true) (hin : ∀ w ∈ u_ws C T N, w ∈ Ts) (hown : s.vm.findClass own = some m.cls) (hK : va_K (dC, dI) vwCl (hp_ty dA) s) (hJ : hp_J dC dI dA κ B g H0 H locs) (hκ : κ a = kd) (ht : hk_t kd = (1, ci, N)) (hc : vwCl[ci]? = some (C, T, N)) (k : Nat) (hk : k < N) (hlink : (Cond.fieldLink own index ref (T k).2.1 (T k).2.2.1).before args s = true) (hsame : ∀ x, s.fieldFound? (T k).1 (T k).2.1 (T k).2.2.1 = some x → s.fieldFound? ref (T k).2.1 (T k).2.2.1 = some x) (hdg : decode cc pc = .ok (.getfield index, 3))
    (kk : ∀ v : Value, hs_ok κ (g kd k) (hk_s kd k) v → W p l e R s m args below meth c H locs cells slots Q (F0 m (pc + 3) ls (v :: rest))) : W p l e R s m args below meth c H locs cells slots Q (F0 m (pc) ls (.ref a :: rest)) := by
  obtain ⟨⟨F, hM, hO⟩, -⟩ := hJ
  have h := hM a
  have ho := hO a k
  rw [hκ, ht] at h
  rw [hκ, ht] at ho
  obtain ⟨cell, q1, q2, q3, q4⟩ := (show t_OB a (dC ci) N (dI ci) H (F a) from h)
  obtain ⟨hS, hfc, kC, hkC, hkind⟩ := hK.1 ci _ hc
  obtain ⟨cf, kf, fi, f, hi, hsl⟩ := hS k hk
  refine W.getf hx hb hown hlink (hsame _ hi) (u_facts hfc hkC (u_lays hts hin hk) hi).1 q1 (by rw [q3]; exact fun h => by cases h) (v := F a k) ?_ rfl rfl hdg (kk _ (ho hk))
  rw [hsl, q4 k hk]
theorem hp_geti (hx : p.tables.exec = Jvm.exec) (hb : c.code = cc) {own ref C : String} {T : u_T} {N ci index kd : Nat} {Ts : List Cond} (hts : ∀ w ∈ Ts, w.before args s = true) (hin : ∀ w ∈ u_ws C T N, w ∈ Ts) (hown : s.vm.findClass own = some m.cls) (hK : va_K (dC, dI) vwCl (hp_ty dA) s) (hJ : hp_J dC dI dA κ B g H0 H locs) (hκ : κ a = kd) (ht : hk_t kd = (1, ci, N)) (hc : vwCl[ci]? = some (C, T, N)) (k : Nat) (hk : k < N) (hlink : (Cond.fieldLink own index ref (T k).2.1 (T k).2.2.1).before args s = true) (hsame : ∀ x, s.fieldFound? (T k).1 (T k).2.1 (T k).2.2.1 = some x → s.fieldFound? ref (T k).2.1 (T k).2.2.1 = some x) {sp : Nat × Nat} (hs : hk_s kd k = sp) (hn : hs_n sp = true) (hdg : decode cc pc = .ok (.getfield index, 3))
    (kk : ∀ x : Int32, hs_i (g kd k) sp x.toInt → W p l e R s m args below meth c H locs cells slots Q (F0 m (pc + 3) ls (.int x :: rest))) : W p l e R s m args below meth c H locs cells slots Q (F0 m (pc) ls (.ref a :: rest)) := by
  refine hp_getv hx hb hts hin hown hK hJ hκ ht hc k hk hlink hsame hdg (fun v hv => ?_)
  rw [hs] at hv
  obtain ⟨x, rfl, h⟩ := hs_ok_i hn hv
  exact kk x h
theorem hp_getr (hx : p.tables.exec = Jvm.exec) (hb : c.code = cc) {own ref C : String} {T : u_T} {N ci index kd : Nat} {Ts : List Cond} (hts : ∀ w ∈ Ts, w.before args s = true) (hin : ∀ w ∈ u_ws C T N, w ∈ Ts) (hown : s.vm.findClass own = some m.cls) (hK : va_K (dC, dI) vwCl (hp_ty dA) s) (hJ : hp_J dC dI dA κ B g H0 H locs) (hκ : κ a = kd) (ht : hk_t kd = (1, ci, N)) (hc : vwCl[ci]? = some (C, T, N)) (k : Nat) (hk : k < N) (hlink : (Cond.fieldLink own index ref (T k).2.1 (T k).2.2.1).before args s = true) (hsame : ∀ x, s.fieldFound? (T k).1 (T k).2.1 (T k).2.2.1 = some x → s.fieldFound? ref (T k).2.1 (T k).2.2.1 = some x) {k2 : Nat} (hs : hk_s kd k = (4, k2)) (hdg : decode cc pc = .ok (.getfield index, 3))
    (kk : ∀ b : Nat, κ b = k2 → W p l e R s m args below meth c H locs cells slots Q (F0 m (pc + 3) ls (.ref b :: rest))) : W p l e R s m args below meth c H locs cells slots Q (F0 m (pc) ls (.ref a :: rest)) := by
  refine hp_getv hx hb hts hin hown hK hJ hκ ht hc k hk hlink hsame hdg (fun v hv => ?_)
  rw [hs] at hv
  obtain ⟨b, rfl, h⟩ := (show ∃ b : Nat, v = .ref b ∧ κ b = k2 from hv)
  exact kk b h
theorem hp_putv (hx : p.tables.exec = Jvm.exec) (hb : c.code = cc) {own ref C : String} {T : u_T} {N ci index kd : Nat} {Ts : List Cond} (hts : ∀ w ∈ Ts, w.before args s = true) (hin : ∀ w ∈ u_ws C T N, w ∈ Ts) (hown : s.vm.findClass own = some m.cls) (hK : va_K (dC, dI) vwCl (hp_ty dA) s) (hJ : hp_J dC dI dA κ B g H0 H locs) (hκ : κ a = kd) (ht : hk_t kd = (1, ci, N)) (hc : vwCl[ci]? = some (C, T, N)) (k : Nat) (hk : k < N) (hlink : (Cond.fieldLink own index ref (T k).2.1 (T k).2.2.1).before args s = true) (hsame : ∀ x, s.fieldFound? (T k).1 (T k).2.1 (T k).2.2.1 = some x → s.fieldFound? ref (T k).2.1 (T k).2.2.1 = some x) (ty0 : Nat → FieldType) (hty : ∀ k, k < N → parseFieldDescriptor (T k).2.2.1 = some (ty0 k)) (hnm : ∀ a, a < N → ∀ b, b < N → a ≠ b → (T a).2.1 ≠ (T b).2.1) {v : Value} (hn : narrow (ty0 k) v = v) (hfit : fits (ty0 k) v = true) (h0 : kd ≠ 0) (hW : hp_W κ B) (hfin : (T k).2.2.2 = false) (hdg : decode cc pc = .ok (.putfield index, 3))
    (kk : ∀ (F : hp_F) (H1 : Heap) (locs1 : List Loc), hp_M dC dI dA κ (hp_u F a k v) H1 → hp_O κ g F → va_S (hp_A B) H0 H1 locs1 → W p l e R s m args below meth c H1 locs1 cells slots Q (F0 m (pc + 3) ls (rest))) : W p l e R s m args below meth c H locs cells slots Q (F0 m (pc) ls (v :: .ref a :: rest)) := by
  have hap := va_apart (own := own) (ci := ci) hts hin ty0 hty hnm hK hc
  obtain ⟨⟨F, hM, hO⟩, hS0⟩ := hJ
  have h := hM a
  rw [hκ, ht] at h
  obtain ⟨cell, q1, q2, q3, q4⟩ := (show t_OB a (dC ci) N (dI ci) H (F a) from h)
  obtain ⟨hS, hfc, kC, hkC, hkind⟩ := hK.1 ci _ hc
  obtain ⟨cf, kf, fi, f, hi, hsl⟩ := hS k hk
  have hlay := hts _ (hin _ (u_in_lay hk))
  unfold u_lay at hlay
  rw [if_neg (by rw [hfin]; decide)] at hlay
  have hst := (u_facts hfc hkC (u_lays hts hin hk) hi).1
  have h6 := u_store hfc hkC hkind hlay hi (hty k hk) hn hfit
  refine W.putK hx hb (f := f) ⟨hown, hlink, ⟨_, _, _, hsame _ hi⟩, hst⟩ (by rw [q2]; exact h6) q1 q3 (by rw [hsl]; exact k2_hasslot (q4 k hk)) rfl rfl hdg fun H' e1 e2 e3 => ?_
  rw [hsl] at e1 ⊢
  refine kk F H' _ (hp_set hM ?_ e3) hO (hS0.put e2 e3 (hW.1 a (by rw [hκ]; exact h0)))
  rw [hκ, ht]
  exact ⟨_, e1, q2, q3, t_set q4 hap hk v⟩
theorem hp_putF (hx : p.tables.exec = Jvm.exec) (hb : c.code = cc) {own ref C : String} {T : u_T} {N ci index kd : Nat} {Ts : List Cond} (hts : ∀ w ∈ Ts, w.before args s = true) (hin : ∀ w ∈ u_ws C T N, w ∈ Ts) (hown : s.vm.findClass own = some m.cls) (hK : va_K (dC, dI) vwCl (hp_ty dA) s) (hJ : hp_J dC dI dA κ B g H0 H locs) (hκ : κ a = kd) (ht : hk_t kd = (1, ci, N)) (hc : vwCl[ci]? = some (C, T, N)) (k : Nat) (hk : k < N) (hlink : (Cond.fieldLink own index ref (T k).2.1 (T k).2.2.1).before args s = true) (hsame : ∀ x, s.fieldFound? (T k).1 (T k).2.1 (T k).2.2.1 = some x → s.fieldFound? ref (T k).2.1 (T k).2.2.1 = some x) (ty0 : Nat → FieldType) (hty : ∀ k, k < N → parseFieldDescriptor (T k).2.2.1 = some (ty0 k)) (hnm : ∀ a, a < N → ∀ b, b < N → a ≠ b → (T a).2.1 ≠ (T b).2.1) {v : Value} (hn : narrow (ty0 k) v = v) (hfit : fits (ty0 k) v = true) (h0 : kd ≠ 0) (hW : hp_W κ B) (hfin : (T k).2.2.2 = true) (hin2 : meth.name = "<init>") (hdecl : (T k).1 = own) (hdg : decode cc pc = .ok (.putfield index, 3))
    (kk : ∀ (F : hp_F) (H1 : Heap) (locs1 : List Loc), hp_M dC dI dA κ (hp_u F a k v) H1 → hp_O κ g F → va_S (hp_A B) H0 H1 locs1 → W p l e R s m args below meth c H1 locs1 cells slots Q (F0 m (pc + 3) ls (rest))) : W p l e R s m args below meth c H locs cells slots Q (F0 m (pc) ls (v :: .ref a :: rest)) := by
  have hap := va_apart (own := own) (ci := ci) hts hin ty0 hty hnm hK hc
  obtain ⟨⟨F, hM, hO⟩, hS0⟩ := hJ
  have h := hM a
  rw [hκ, ht] at h
  obtain ⟨cell, q1, q2, q3, q4⟩ := (show t_OB a (dC ci) N (dI ci) H (F a) from h)
  obtain ⟨hS, hfc, kC, hkC, hkind⟩ := hK.1 ci _ hc
  obtain ⟨cf, kf, fi, f, hi, hsl⟩ := hS k hk
  have hlay := hts _ (hin _ (u_in_lay hk))
  unfold u_lay at hlay
  rw [if_pos hfin] at hlay
  have hst := (u_facts hfc hkC (u_lays hts hin hk) hi).1
  have hcf : m.cls = cf := by
    obtain ⟨_, _, c', _, _, _, -, -, hf', -, -, -, hown2, -⟩ := Cond.laysFinal_spec hlay
    have e1 : c' = cf := by have := hi.symm.trans hf'; simp at this; exact this.1.symm
    rw [hdecl] at hown2
    rw [← e1]; exact Option.some.inj (hown.symm.trans hown2)
  have h6 := u_fits hfc hkC hkind (Or.inr hlay) hi (hty k hk) hn hfit
  refine W.putFinK hx hb hown hlink (hsame _ hi) hst hcf hin2 (by rw [q2]; exact h6) q1 q3 (by rw [hsl]; exact k2_hasslot (q4 k hk)) rfl rfl hdg fun H' e1 e2 e3 => ?_
  rw [hsl] at e1 ⊢
  refine kk F H' _ (hp_set hM ?_ e3) hO (hS0.put e2 e3 (hW.1 a (by rw [hκ]; exact h0)))
  rw [hκ, ht]
  exact ⟨_, e1, q2, q3, t_set q4 hap hk v⟩
theorem hp_put (hx : p.tables.exec = Jvm.exec) (hb : c.code = cc) {own ref C : String} {T : u_T} {N ci index kd : Nat} {Ts : List Cond} (hts : ∀ w ∈ Ts, w.before args s = true) (hin : ∀ w ∈ u_ws C T N, w ∈ Ts) (hown : s.vm.findClass own = some m.cls) (hK : va_K (dC, dI) vwCl (hp_ty dA) s) (hJ : hp_J dC dI dA κ B g H0 H locs) (hκ : κ a = kd) (ht : hk_t kd = (1, ci, N)) (hc : vwCl[ci]? = some (C, T, N)) (k : Nat) (hk : k < N) (hlink : (Cond.fieldLink own index ref (T k).2.1 (T k).2.2.1).before args s = true) (hsame : ∀ x, s.fieldFound? (T k).1 (T k).2.1 (T k).2.2.1 = some x → s.fieldFound? ref (T k).2.1 (T k).2.2.1 = some x) (ty0 : Nat → FieldType) (hty : ∀ k, k < N → parseFieldDescriptor (T k).2.2.1 = some (ty0 k)) (hnm : ∀ a, a < N → ∀ b, b < N → a ≠ b → (T a).2.1 ≠ (T b).2.1) {v : Value} (hn : narrow (ty0 k) v = v) (hfit : fits (ty0 k) v = true) (h0 : kd ≠ 0) (hW : hp_W κ B) (hfin : (T k).2.2.2 = false) (hv : hs_ok κ (g kd k) (hk_s kd k) v) (hdg : decode cc pc = .ok (.putfield index, 3))
    (kk : ∀ (H1 : Heap) (locs1 : List Loc), hp_J dC dI dA κ B g H0 H1 locs1 → W p l e R s m args below meth c H1 locs1 cells slots Q (F0 m (pc + 3) ls (rest))) : W p l e R s m args below meth c H locs cells slots Q (F0 m (pc) ls (v :: .ref a :: rest)) := hp_putv hx hb hts hin hown hK hJ hκ ht hc k hk hlink hsame ty0 hty hnm hn hfit h0 hW hfin hdg (fun F H1 locs1 hM hO hS => kk H1 locs1 ⟨⟨_, hM, hp_setO hO (by rw [hκ]; exact hv)⟩, hS⟩)
theorem hp_putx (hx : p.tables.exec = Jvm.exec) (hb : c.code = cc) {own ref C : String} {T : u_T} {N ci index kd : Nat} {Ts : List Cond} (hts : ∀ w ∈ Ts, w.before args s = true) (hin : ∀ w ∈ u_ws C T N, w ∈ Ts) (hown : s.vm.findClass own = some m.cls) (hK : va_K (dC, dI) vwCl (hp_ty dA) s) (hJ : hp_J dC dI dA κ B g H0 H locs) (hκ : κ a = kd) (ht : hk_t kd = (1, ci, N)) (hc : vwCl[ci]? = some (C, T, N)) (k : Nat) (hk : k < N) (hlink : (Cond.fieldLink own index ref (T k).2.1 (T k).2.2.1).before args s = true) (hsame : ∀ x, s.fieldFound? (T k).1 (T k).2.1 (T k).2.2.1 = some x → s.fieldFound? ref (T k).2.1 (T k).2.2.1 = some x) (ty0 : Nat → FieldType) (hty : ∀ k, k < N → parseFieldDescriptor (T k).2.2.1 = some (ty0 k)) (hnm : ∀ a, a < N → ∀ b, b < N → a ≠ b → (T a).2.1 ≠ (T b).2.1) {x : Int32} (hn : narrow (ty0 k) (.int x) = .int x) (hfit : fits (ty0 k) (.int x) = true) (h0 : kd ≠ 0) (hW : hp_W κ B) (hfin : (T k).2.2.2 = false) (hxx : hk_x kd = true) (hs : hk_s kd k = (0, 0)) (hdg : decode cc pc = .ok (.putfield index, 3))
    (kk : ∀ (g1 : Nat → Nat → Int) (H1 : Heap) (locs1 : List Loc), g1 kd k = x.toInt → (∀ a b : Nat, ¬ (a = kd ∧ b = k) → g1 a b = g a b) → hp_J dC dI dA κ B g1 H0 H1 locs1 → W p l e R s m args below meth c H1 locs1 cells slots Q (F0 m (pc + 3) ls (rest))) : W p l e R s m args below meth c H locs cells slots Q (F0 m (pc) ls (.int x :: .ref a :: rest)) := hp_putv hx hb hts hin hown hK hJ hκ ht hc k hk hlink hsame ty0 hty hnm hn hfit h0 hW hfin hdg (fun F H1 locs1 hM hO hS => kk _ H1 locs1 (hp_ug_s _ _ _ _) (fun _ _ h => hp_ug_n h) ⟨⟨_, hM, hp_setX hO hW hκ hxx (by rw [hs]; exact ⟨x, rfl, rfl⟩)⟩, hS⟩)
-- arrays
theorem hp_ialv (hx : p.tables.exec = Jvm.exec) (hb : c.code = cc) {kd n : Nat} (hK : va_K (dC, dI) vwCl (hp_ty dA) s) (hJ : hp_J dC dI dA κ B g H0 H locs) (hκ : κ a = kd) (ht : hk_t kd = (2, 0, n)) {i : Int32} (h1 : 0 ≤ i.toInt) (h2 : i.toInt < (n : Int)) (hdg : decode cc pc = .ok (.iaload, 1))
    (kk : ∀ v : Value, hs_ok κ (g kd i.toInt.toNat) (hk_s kd i.toInt.toNat) v → W p l e R s m args below meth c H locs cells slots Q (F0 m (pc + 1) ls (v :: rest))) : W p l e R s m args below meth c H locs cells slots Q (F0 m (pc) ls (.int i :: .ref a :: rest)) := by
  obtain ⟨⟨F, hM, hO⟩, -⟩ := hJ
  have h := hM a
  have ho := hO a i.toInt.toNat
  rw [hκ, ht] at h
  rw [hκ, ht] at ho
  have hin := hi_in h1 h2
  have hlt : i.toNatClampNeg < n := Nat.not_le.mp fun q => hin (Or.inr q)
  exact W.iald (v := F a i.toInt.toNat) hx hb h ((hK.2 0 _ rfl).1 n (F a)) (fun q => by cases q) (by show ¬ (i < 0 ∨ (arrV _ _ _).slots.size ≤ _); rw [arrV_size]; exact hin) (arrV_read _ _ hlt) rfl rfl hdg (kk _ (ho hlt))
theorem hp_balv (hx : p.tables.exec = Jvm.exec) (hb : c.code = cc) {kd n : Nat} (hK : va_K (dC, dI) vwCl (hp_ty dA) s) (hJ : hp_J dC dI dA κ B g H0 H locs) (hκ : κ a = kd) (ht : hk_t kd = (2, 1, n)) {i : Int32} (h1 : 0 ≤ i.toInt) (h2 : i.toInt < (n : Int)) (hdg : decode cc pc = .ok (.baload, 1))
    (kk : ∀ v : Value, hs_ok κ (g kd i.toInt.toNat) (hk_s kd i.toInt.toNat) v → W p l e R s m args below meth c H locs cells slots Q (F0 m (pc + 1) ls (v :: rest))) : W p l e R s m args below meth c H locs cells slots Q (F0 m (pc) ls (.int i :: .ref a :: rest)) := by
  obtain ⟨⟨F, hM, hO⟩, -⟩ := hJ
  have h := hM a
  have ho := hO a i.toInt.toNat
  rw [hκ, ht] at h
  rw [hκ, ht] at ho
  have hin := hi_in h1 h2
  have hlt : i.toNatClampNeg < n := Nat.not_le.mp fun q => hin (Or.inr q)
  exact W.bald (v := F a i.toInt.toNat) hx hb h ((hK.2 1 _ rfl).1 n (F a)) (fun q => by cases q) (by show ¬ (i < 0 ∨ (arrV _ _ _).slots.size ≤ _); rw [arrV_size]; exact hin) (arrV_read _ _ hlt) rfl rfl hdg (kk _ (ho hlt))
theorem hp_zalv (hx : p.tables.exec = Jvm.exec) (hb : c.code = cc) {kd n : Nat} (hK : va_K (dC, dI) vwCl (hp_ty dA) s) (hJ : hp_J dC dI dA κ B g H0 H locs) (hκ : κ a = kd) (ht : hk_t kd = (2, 2, n)) {i : Int32} (h1 : 0 ≤ i.toInt) (h2 : i.toInt < (n : Int)) (hdg : decode cc pc = .ok (.baload, 1))
    (kk : ∀ v : Value, hs_ok κ (g kd i.toInt.toNat) (hk_s kd i.toInt.toNat) v → W p l e R s m args below meth c H locs cells slots Q (F0 m (pc + 1) ls (v :: rest))) : W p l e R s m args below meth c H locs cells slots Q (F0 m (pc) ls (.int i :: .ref a :: rest)) := by
  obtain ⟨⟨F, hM, hO⟩, -⟩ := hJ
  have h := hM a
  have ho := hO a i.toInt.toNat
  rw [hκ, ht] at h
  rw [hκ, ht] at ho
  have hin := hi_in h1 h2
  have hlt : i.toNatClampNeg < n := Nat.not_le.mp fun q => hin (Or.inr q)
  exact W.zald (v := F a i.toInt.toNat) hx hb h ((hK.2 2 _ rfl).1 n (F a)) (fun q => by cases q) (by show ¬ (i < 0 ∨ (arrV _ _ _).slots.size ≤ _); rw [arrV_size]; exact hin) (arrV_read _ _ hlt) rfl rfl hdg (kk _ (ho hlt))
theorem hp_aalv3 (hx : p.tables.exec = Jvm.exec) (hb : c.code = cc) {kd n : Nat} (hK : va_K (dC, dI) vwCl (hp_ty dA) s) (hJ : hp_J dC dI dA κ B g H0 H locs) (hκ : κ a = kd) (ht : hk_t kd = (2, 3, n)) {i : Int32} (h1 : 0 ≤ i.toInt) (h2 : i.toInt < (n : Int)) (hdg : decode cc pc = .ok (.aaload, 1))
    (kk : ∀ v : Value, hs_ok κ (g kd i.toInt.toNat) (hk_s kd i.toInt.toNat) v → W p l e R s m args below meth c H locs cells slots Q (F0 m (pc + 1) ls (v :: rest))) : W p l e R s m args below meth c H locs cells slots Q (F0 m (pc) ls (.int i :: .ref a :: rest)) := by
  obtain ⟨⟨F, hM, hO⟩, -⟩ := hJ
  have h := hM a
  have ho := hO a i.toInt.toNat
  rw [hκ, ht] at h
  rw [hκ, ht] at ho
  have hin := hi_in h1 h2
  have hlt : i.toNatClampNeg < n := Nat.not_le.mp fun q => hin (Or.inr q)
  exact W.aald (v := F a i.toInt.toNat) hx hb h ((hK.2 3 _ rfl).1 n (F a)) rfl (fun q => by cases q) (by show ¬ (i < 0 ∨ (arrV _ _ _).slots.size ≤ _); rw [arrV_size]; exact hin) (arrV_read _ _ hlt) rfl rfl hdg (kk _ (ho hlt))
theorem hp_aalv4 (hx : p.tables.exec = Jvm.exec) (hb : c.code = cc) {kd n : Nat} (hK : va_K (dC, dI) vwCl (hp_ty dA) s) (hJ : hp_J dC dI dA κ B g H0 H locs) (hκ : κ a = kd) (ht : hk_t kd = (2, 4, n)) {i : Int32} (h1 : 0 ≤ i.toInt) (h2 : i.toInt < (n : Int)) (hdg : decode cc pc = .ok (.aaload, 1))
    (kk : ∀ v : Value, hs_ok κ (g kd i.toInt.toNat) (hk_s kd i.toInt.toNat) v → W p l e R s m args below meth c H locs cells slots Q (F0 m (pc + 1) ls (v :: rest))) : W p l e R s m args below meth c H locs cells slots Q (F0 m (pc) ls (.int i :: .ref a :: rest)) := by
  obtain ⟨⟨F, hM, hO⟩, -⟩ := hJ
  have h := hM a
  have ho := hO a i.toInt.toNat
  rw [hκ, ht] at h
  rw [hκ, ht] at ho
  have hin := hi_in h1 h2
  have hlt : i.toNatClampNeg < n := Nat.not_le.mp fun q => hin (Or.inr q)
  exact W.aald (v := F a i.toInt.toNat) hx hb h ((hK.2 4 _ rfl).1 n (F a)) rfl (fun q => by cases q) (by show ¬ (i < 0 ∨ (arrV _ _ _).slots.size ≤ _); rw [arrV_size]; exact hin) (arrV_read _ _ hlt) rfl rfl hdg (kk _ (ho hlt))
theorem hp_iald (hx : p.tables.exec = Jvm.exec) (hb : c.code = cc) {kd n : Nat} (hK : va_K (dC, dI) vwCl (hp_ty dA) s) (hJ : hp_J dC dI dA κ B g H0 H locs) (hκ : κ a = kd) (ht : hk_t kd = (2, 0, n)) {i : Int32} (h1 : 0 ≤ i.toInt) (h2 : i.toInt < (n : Int)) {sp : Nat × Nat} (hs : hk_s kd i.toInt.toNat = sp) (hn : hs_n sp = true) (hdg : decode cc pc = .ok (.iaload, 1))
    (kk : ∀ x : Int32, hs_i (g kd i.toInt.toNat) sp x.toInt → W p l e R s m args below meth c H locs cells slots Q (F0 m (pc + 1) ls (.int x :: rest))) : W p l e R s m args below meth c H locs cells slots Q (F0 m (pc) ls (.int i :: .ref a :: rest)) := by
  refine hp_ialv hx hb hK hJ hκ ht h1 h2 hdg (fun v hv => ?_)
  rw [hs] at hv
  obtain ⟨x, rfl, h⟩ := hs_ok_i hn hv
  exact kk x h
theorem hp_bald (hx : p.tables.exec = Jvm.exec) (hb : c.code = cc) {kd n : Nat} (hK : va_K (dC, dI) vwCl (hp_ty dA) s) (hJ : hp_J dC dI dA κ B g H0 H locs) (hκ : κ a = kd) (ht : hk_t kd = (2, 1, n)) {i : Int32} (h1 : 0 ≤ i.toInt) (h2 : i.toInt < (n : Int)) {sp : Nat × Nat} (hs : hk_s kd i.toInt.toNat = sp) (hn : hs_n sp = true) (hdg : decode cc pc = .ok (.baload, 1))
    (kk : ∀ x : Int32, hs_i (g kd i.toInt.toNat) sp x.toInt → W p l e R s m args below meth c H locs cells slots Q (F0 m (pc + 1) ls (.int x :: rest))) : W p l e R s m args below meth c H locs cells slots Q (F0 m (pc) ls (.int i :: .ref a :: rest)) := by
  refine hp_balv hx hb hK hJ hκ ht h1 h2 hdg (fun v hv => ?_)
  rw [hs] at hv
  obtain ⟨x, rfl, h⟩ := hs_ok_i hn hv
  exact kk x h
theorem hp_zald (hx : p.tables.exec = Jvm.exec) (hb : c.code = cc) {kd n : Nat} (hK : va_K (dC, dI) vwCl (hp_ty dA) s) (hJ : hp_J dC dI dA κ B g H0 H locs) (hκ : κ a = kd) (ht : hk_t kd = (2, 2, n)) {i : Int32} (h1 : 0 ≤ i.toInt) (h2 : i.toInt < (n : Int)) {sp : Nat × Nat} (hs : hk_s kd i.toInt.toNat = sp) (hn : hs_n sp = true) (hdg : decode cc pc = .ok (.baload, 1))
    (kk : ∀ x : Int32, hs_i (g kd i.toInt.toNat) sp x.toInt → W p l e R s m args below meth c H locs cells slots Q (F0 m (pc + 1) ls (.int x :: rest))) : W p l e R s m args below meth c H locs cells slots Q (F0 m (pc) ls (.int i :: .ref a :: rest)) := by
  refine hp_zalv hx hb hK hJ hκ ht h1 h2 hdg (fun v hv => ?_)
  rw [hs] at hv
  obtain ⟨x, rfl, h⟩ := hs_ok_i hn hv
  exact kk x h
theorem hp_aald3 (hx : p.tables.exec = Jvm.exec) (hb : c.code = cc) {kd n : Nat} (hK : va_K (dC, dI) vwCl (hp_ty dA) s) (hJ : hp_J dC dI dA κ B g H0 H locs) (hκ : κ a = kd) (ht : hk_t kd = (2, 3, n)) {i : Int32} (h1 : 0 ≤ i.toInt) (h2 : i.toInt < (n : Int)) {k2 : Nat} (hs : hk_s kd i.toInt.toNat = (4, k2)) (hdg : decode cc pc = .ok (.aaload, 1))
    (kk : ∀ b : Nat, κ b = k2 → W p l e R s m args below meth c H locs cells slots Q (F0 m (pc + 1) ls (.ref b :: rest))) : W p l e R s m args below meth c H locs cells slots Q (F0 m (pc) ls (.int i :: .ref a :: rest)) := by
  refine hp_aalv3 hx hb hK hJ hκ ht h1 h2 hdg (fun v hv => ?_)
  rw [hs] at hv
  obtain ⟨b, rfl, h⟩ := (show ∃ b : Nat, v = .ref b ∧ κ b = k2 from hv)
  exact kk b h
theorem hp_aald4 (hx : p.tables.exec = Jvm.exec) (hb : c.code = cc) {kd n : Nat} (hK : va_K (dC, dI) vwCl (hp_ty dA) s) (hJ : hp_J dC dI dA κ B g H0 H locs) (hκ : κ a = kd) (ht : hk_t kd = (2, 4, n)) {i : Int32} (h1 : 0 ≤ i.toInt) (h2 : i.toInt < (n : Int)) {k2 : Nat} (hs : hk_s kd i.toInt.toNat = (4, k2)) (hdg : decode cc pc = .ok (.aaload, 1))
    (kk : ∀ b : Nat, κ b = k2 → W p l e R s m args below meth c H locs cells slots Q (F0 m (pc + 1) ls (.ref b :: rest))) : W p l e R s m args below meth c H locs cells slots Q (F0 m (pc) ls (.int i :: .ref a :: rest)) := by
  refine hp_aalv4 hx hb hK hJ hκ ht h1 h2 hdg (fun v hv => ?_)
  rw [hs] at hv
  obtain ⟨b, rfl, h⟩ := (show ∃ b : Nat, v = .ref b ∧ κ b = k2 from hv)
  exact kk b h
theorem hp_iasv (hx : p.tables.exec = Jvm.exec) (hb : c.code = cc) {kd n : Nat} (hK : va_K (dC, dI) vwCl (hp_ty dA) s) (hJ : hp_J dC dI dA κ B g H0 H locs) (hκ : κ a = kd) (ht : hk_t kd = (2, 0, n)) {i : Int32} (h1 : 0 ≤ i.toInt) (h2 : i.toInt < (n : Int)) {x : Int32} (h0 : kd ≠ 0) (hW : hp_W κ B) (hdg : decode cc pc = .ok (.iastore, 1))
    (kk : ∀ (F : hp_F) (H1 : Heap) (locs1 : List Loc), hp_M dC dI dA κ (hp_u F a i.toInt.toNat (.int x)) H1 → hp_O κ g F → va_S (hp_A B) H0 H1 locs1 → W p l e R s m args below meth c H1 locs1 cells slots Q (F0 m (pc + 1) ls (rest))) : W p l e R s m args below meth c H locs cells slots Q (F0 m (pc) ls (.int x :: .int i :: .ref a :: rest)) := by
  obtain ⟨⟨F, hM, hO⟩, hS0⟩ := hJ
  have h := hM a
  rw [hκ, ht] at h
  have hin := hi_in h1 h2
  refine W.iast hx hb h ((hK.2 0 _ rfl).1 n (F a)) (fun q => by cases q) (by show ¬ (i < 0 ∨ (arrV _ _ _).slots.size ≤ _); rw [arrV_size]; exact hin) rfl rfl hdg fun H' e1 e2 e3 => ?_
  refine kk F H' _ (hp_set hM ?_ e3) hO (hS0.put e2 e3 (hW.1 a (by rw [hκ]; exact h0)))
  rw [hκ, ht]
  exact e1.trans (congrArg some (arrV_store _ _ _ _ _))
theorem hp_basv (hx : p.tables.exec = Jvm.exec) (hb : c.code = cc) {kd n : Nat} (hK : va_K (dC, dI) vwCl (hp_ty dA) s) (hJ : hp_J dC dI dA κ B g H0 H locs) (hκ : κ a = kd) (ht : hk_t kd = (2, 1, n)) {i : Int32} (h1 : 0 ≤ i.toInt) (h2 : i.toInt < (n : Int)) {x : Int32} (h0 : kd ≠ 0) (hW : hp_W κ B) (hdg : decode cc pc = .ok (.bastore, 1))
    (kk : ∀ (F : hp_F) (H1 : Heap) (locs1 : List Loc), hp_M dC dI dA κ (hp_u F a i.toInt.toNat (narrow .byte (.int x))) H1 → hp_O κ g F → va_S (hp_A B) H0 H1 locs1 → W p l e R s m args below meth c H1 locs1 cells slots Q (F0 m (pc + 1) ls (rest))) : W p l e R s m args below meth c H locs cells slots Q (F0 m (pc) ls (.int x :: .int i :: .ref a :: rest)) := by
  obtain ⟨⟨F, hM, hO⟩, hS0⟩ := hJ
  have h := hM a
  rw [hκ, ht] at h
  have hin := hi_in h1 h2
  refine W.bast hx hb h ((hK.2 1 _ rfl).1 n (F a)) (fun q => by cases q) (by show ¬ (i < 0 ∨ (arrV _ _ _).slots.size ≤ _); rw [arrV_size]; exact hin) rfl rfl hdg fun H' e1 e2 e3 => ?_
  refine kk F H' _ (hp_set hM ?_ e3) hO (hS0.put e2 e3 (hW.1 a (by rw [hκ]; exact h0)))
  rw [hκ, ht]
  exact e1.trans (congrArg some (arrV_store _ _ _ _ _))
theorem hp_zasv (hx : p.tables.exec = Jvm.exec) (hb : c.code = cc) {kd n : Nat} (hK : va_K (dC, dI) vwCl (hp_ty dA) s) (hJ : hp_J dC dI dA κ B g H0 H locs) (hκ : κ a = kd) (ht : hk_t kd = (2, 2, n)) {i : Int32} (h1 : 0 ≤ i.toInt) (h2 : i.toInt < (n : Int)) {x : Int32} (h0 : kd ≠ 0) (hW : hp_W κ B) (hdg : decode cc pc = .ok (.bastore, 1))
    (kk : ∀ (F : hp_F) (H1 : Heap) (locs1 : List Loc), hp_M dC dI dA κ (hp_u F a i.toInt.toNat (narrow .boolean (.int x))) H1 → hp_O κ g F → va_S (hp_A B) H0 H1 locs1 → W p l e R s m args below meth c H1 locs1 cells slots Q (F0 m (pc + 1) ls (rest))) : W p l e R s m args below meth c H locs cells slots Q (F0 m (pc) ls (.int x :: .int i :: .ref a :: rest)) := by
  obtain ⟨⟨F, hM, hO⟩, hS0⟩ := hJ
  have h := hM a
  rw [hκ, ht] at h
  have hin := hi_in h1 h2
  refine W.zast hx hb h ((hK.2 2 _ rfl).1 n (F a)) (fun q => by cases q) (by show ¬ (i < 0 ∨ (arrV _ _ _).slots.size ≤ _); rw [arrV_size]; exact hin) rfl rfl hdg fun H' e1 e2 e3 => ?_
  refine kk F H' _ (hp_set hM ?_ e3) hO (hS0.put e2 e3 (hW.1 a (by rw [hκ]; exact h0)))
  rw [hκ, ht]
  exact e1.trans (congrArg some (arrV_store _ _ _ _ _))
theorem hp_iast (hx : p.tables.exec = Jvm.exec) (hb : c.code = cc) {kd n : Nat} (hK : va_K (dC, dI) vwCl (hp_ty dA) s) (hJ : hp_J dC dI dA κ B g H0 H locs) (hκ : κ a = kd) (ht : hk_t kd = (2, 0, n)) {i : Int32} (h1 : 0 ≤ i.toInt) (h2 : i.toInt < (n : Int)) {x : Int32} (h0 : kd ≠ 0) (hW : hp_W κ B) {sp : Nat × Nat} (hs : hk_s kd i.toInt.toNat = sp) (hn : hs_n sp = true) (hv : hs_i (g kd i.toInt.toNat) sp x.toInt) (hdg : decode cc pc = .ok (.iastore, 1))
    (kk : ∀ (H1 : Heap) (locs1 : List Loc), hp_J dC dI dA κ B g H0 H1 locs1 → W p l e R s m args below meth c H1 locs1 cells slots Q (F0 m (pc + 1) ls (rest))) : W p l e R s m args below meth c H locs cells slots Q (F0 m (pc) ls (.int x :: .int i :: .ref a :: rest)) := hp_iasv hx hb hK hJ hκ ht h1 h2 h0 hW hdg (fun F H1 locs1 hM hO hS => kk H1 locs1 ⟨⟨_, hM, hp_setO hO (by rw [hκ, hs]; exact hs_i_ok hn hv)⟩, hS⟩)
theorem hp_bast (hx : p.tables.exec = Jvm.exec) (hb : c.code = cc) {kd n : Nat} (hK : va_K (dC, dI) vwCl (hp_ty dA) s) (hJ : hp_J dC dI dA κ B g H0 H locs) (hκ : κ a = kd) (ht : hk_t kd = (2, 1, n)) {i : Int32} (h1 : 0 ≤ i.toInt) (h2 : i.toInt < (n : Int)) {x : Int32} (h0 : kd ≠ 0) (hW : hp_W κ B) (hs : hk_s kd i.toInt.toNat = (5, 0)) (hdg : decode cc pc = .ok (.bastore, 1))
    (kk : ∀ (H1 : Heap) (locs1 : List Loc), hp_J dC dI dA κ B g H0 H1 locs1 → W p l e R s m args below meth c H1 locs1 cells slots Q (F0 m (pc + 1) ls (rest))) : W p l e R s m args below meth c H locs cells slots Q (F0 m (pc) ls (.int x :: .int i :: .ref a :: rest)) := hp_basv hx hb hK hJ hκ ht h1 h2 h0 hW hdg (fun F H1 locs1 hM hO hS => kk H1 locs1 ⟨⟨_, hM, hp_setO hO (by rw [hκ, hs]; exact ⟨x.toInt8.toInt32, rfl, (lg_i2b_range x).1, Int.le_of_lt_add_one (lg_i2b_range x).2⟩)⟩, hS⟩)
theorem hp_zastx (hx : p.tables.exec = Jvm.exec) (hb : c.code = cc) {kd n : Nat} (hK : va_K (dC, dI) vwCl (hp_ty dA) s) (hJ : hp_J dC dI dA κ B g H0 H locs) (hκ : κ a = kd) (ht : hk_t kd = (2, 2, n)) {i : Int32} (h1 : 0 ≤ i.toInt) (h2 : i.toInt < (n : Int)) {x : Int32} (h0 : kd ≠ 0) (hW : hp_W κ B) (hxx : hk_x kd = true) (hb1 : narrow .boolean (.int x) = .int x) (hs : hk_s kd i.toInt.toNat = (0, 0)) (hdg : decode cc pc = .ok (.bastore, 1))
    (kk : ∀ (g1 : Nat → Nat → Int) (H1 : Heap) (locs1 : List Loc), g1 kd i.toInt.toNat = x.toInt → (∀ a b : Nat, ¬ (a = kd ∧ b = i.toInt.toNat) → g1 a b = g a b) → hp_J dC dI dA κ B g1 H0 H1 locs1 → W p l e R s m args below meth c H1 locs1 cells slots Q (F0 m (pc + 1) ls (rest))) : W p l e R s m args below meth c H locs cells slots Q (F0 m (pc) ls (.int x :: .int i :: .ref a :: rest)) := hp_zasv hx hb hK hJ hκ ht h1 h2 h0 hW hdg (fun F H1 locs1 hM hO hS => kk _ H1 locs1 (hp_ug_s _ _ _ _) (fun _ _ h => hp_ug_n h) ⟨⟨_, hM, hp_setX hO hW hκ hxx (by rw [hs, hb1]; exact ⟨x, rfl, rfl⟩)⟩, hS⟩)
theorem hp_iastx (hx : p.tables.exec = Jvm.exec) (hb : c.code = cc) {kd n : Nat} (hK : va_K (dC, dI) vwCl (hp_ty dA) s) (hJ : hp_J dC dI dA κ B g H0 H locs) (hκ : κ a = kd) (ht : hk_t kd = (2, 0, n)) {i : Int32} (h1 : 0 ≤ i.toInt) (h2 : i.toInt < (n : Int)) {x : Int32} (h0 : kd ≠ 0) (hW : hp_W κ B) (hxx : hk_x kd = true) (hs : hk_s kd i.toInt.toNat = (0, 0)) (hdg : decode cc pc = .ok (.iastore, 1))
    (kk : ∀ (g1 : Nat → Nat → Int) (H1 : Heap) (locs1 : List Loc), g1 kd i.toInt.toNat = x.toInt → (∀ a b : Nat, ¬ (a = kd ∧ b = i.toInt.toNat) → g1 a b = g a b) → hp_J dC dI dA κ B g1 H0 H1 locs1 → W p l e R s m args below meth c H1 locs1 cells slots Q (F0 m (pc + 1) ls (rest))) : W p l e R s m args below meth c H locs cells slots Q (F0 m (pc) ls (.int x :: .int i :: .ref a :: rest)) := hp_iasv hx hb hK hJ hκ ht h1 h2 h0 hW hdg (fun F H1 locs1 hM hO hS => kk _ H1 locs1 (hp_ug_s _ _ _ _) (fun _ _ h => hp_ug_n h) ⟨⟨_, hM, hp_setX hO hW hκ hxx (by rw [hs]; exact ⟨x, rfl, rfl⟩)⟩, hS⟩)
theorem hp_aast3 (hx : p.tables.exec = Jvm.exec) (hb : c.code = cc) {kd n : Nat} (hK : va_K (dC, dI) vwCl (hp_ty dA) s) (hJ : hp_J dC dI dA κ B g H0 H locs) (hκ : κ a = kd) (ht : hk_t kd = (2, 3, n)) {i : Int32} (h1 : 0 ≤ i.toInt) (h2 : i.toInt < (n : Int)) {b k2 ci N : Nat} {q : vw_C} (h0 : kd ≠ 0) (hW : hp_W κ B) (hs : hk_s kd i.toInt.toNat = (4, k2)) (hκb : κ b = k2) (htb : hk_t k2 = (1, ci, N)) (hc : vwCl[ci]? = some q) (hq : (hp_ty dA)[3]? = some (dA 3, .object q.1)) (hdg : decode cc pc = .ok (.aastore, 1))
    (kk : ∀ (H1 : Heap) (locs1 : List Loc), hp_J dC dI dA κ B g H0 H1 locs1 → W p l e R s m args below meth c H1 locs1 cells slots Q (F0 m (pc + 1) ls (rest))) : W p l e R s m args below meth c H locs cells slots Q (F0 m (pc) ls (.ref b :: .int i :: .ref a :: rest)) := by
  obtain ⟨⟨F, hM, hO⟩, hS0⟩ := hJ
  have h := hM a
  rw [hκ, ht] at h
  have hv := hM b
  rw [hκb, htb] at hv
  obtain ⟨cell, g1, g2, g3, -⟩ := (show t_OB b (dC ci) N (dI ci) H (F b) from hv)
  have hin := hi_in h1 h2
  have hlt : i.toNatClampNeg < n := Nat.not_le.mp fun q => hin (Or.inr q)
  have hi0 : ¬ i < 0 := fun q => hin (Or.inl q)
  have hcls := (hK.1 ci q hc).2
  obtain ⟨kA, comp, k1, k2', k3, -⟩ := (hK.2 3 _ hq).2
  have hcomp : comp = dC ci := Option.some.inj (k3.symm.trans hcls.1)
  subst hcomp
  obtain ⟨kC, hkC, -⟩ := id hcls.2
  refine W.aast hx hb h (fun q h => by cases h) (fun h => by cases h) k1 k2' rfl hkC ⟨hi0, by show _ < (arrV _ _ _).slots.size; rw [arrV_size]; exact hlt⟩ g1 (fun q h => by rw [g3] at h; cases h) (by rw [g2]; exact hkC) (by rw [g2]; exact va_assign hcls) rfl rfl hdg fun H' e1 e2 e3 => ?_
  refine kk H' _ ⟨⟨_, hp_set (k := i.toInt.toNat) (v := .ref b) hM ?_ e3, hp_setO hO (by rw [hκ, hs]; exact ⟨b, rfl, hκb⟩)⟩, hS0.put e2 e3 (hW.1 a (by rw [hκ]; exact h0))⟩
  rw [hκ, ht]
  exact e1.trans (congrArg some (arrV_store _ _ _ _ _))
theorem hp_aast4 (hx : p.tables.exec = Jvm.exec) (hb : c.code = cc) {kd n : Nat} (hK : va_K (dC, dI) vwCl (hp_ty dA) s) (hJ : hp_J dC dI dA κ B g H0 H locs) (hκ : κ a = kd) (ht : hk_t kd = (2, 4, n)) {i : Int32} (h1 : 0 ≤ i.toInt) (h2 : i.toInt < (n : Int)) {b k2 ci N : Nat} {q : vw_C} (h0 : kd ≠ 0) (hW : hp_W κ B) (hs : hk_s kd i.toInt.toNat = (4, k2)) (hκb : κ b = k2) (htb : hk_t k2 = (1, ci, N)) (hc : vwCl[ci]? = some q) (hq : (hp_ty dA)[4]? = some (dA 4, .object q.1)) (hdg : decode cc pc = .ok (.aastore, 1))
    (kk : ∀ (H1 : Heap) (locs1 : List Loc), hp_J dC dI dA κ B g H0 H1 locs1 → W p l e R s m args below meth c H1 locs1 cells slots Q (F0 m (pc + 1) ls (rest))) : W p l e R s m args below meth c H locs cells slots Q (F0 m (pc) ls (.ref b :: .int i :: .ref a :: rest)) := by
  obtain ⟨⟨F, hM, hO⟩, hS0⟩ := hJ
  have h := hM a
  rw [hκ, ht] at h
  have hv := hM b
  rw [hκb, htb] at hv
  obtain ⟨cell, g1, g2, g3, -⟩ := (show t_OB b (dC ci) N (dI ci) H (F b) from hv)
  have hin := hi_in h1 h2
  have hlt : i.toNatClampNeg < n := Nat.not_le.mp fun q => hin (Or.inr q)
  have hi0 : ¬ i < 0 := fun q => hin (Or.inl q)
  have hcls := (hK.1 ci q hc).2
  obtain ⟨kA, comp, k1, k2', k3, -⟩ := (hK.2 4 _ hq).2
  have hcomp : comp = dC ci := Option.some.inj (k3.symm.trans hcls.1)
  subst hcomp
  obtain ⟨kC, hkC, -⟩ := id hcls.2
  refine W.aast hx hb h (fun q h => by cases h) (fun h => by cases h) k1 k2' rfl hkC ⟨hi0, by show _ < (arrV _ _ _).slots.size; rw [arrV_size]; exact hlt⟩ g1 (fun q h => by rw [g3] at h; cases h) (by rw [g2]; exact hkC) (by rw [g2]; exact va_assign hcls) rfl rfl hdg fun H' e1 e2 e3 => ?_
  refine kk H' _ ⟨⟨_, hp_set (k := i.toInt.toNat) (v := .ref b) hM ?_ e3, hp_setO hO (by rw [hκ, hs]; exact ⟨b, rfl, hκb⟩)⟩, hS0.put e2 e3 (hW.1 a (by rw [hκ]; exact h0))⟩
  rw [hκ, ht]
  exact e1.trans (congrArg some (arrV_store _ _ _ _ _))
theorem hp_alen (hx : p.tables.exec = Jvm.exec) (hb : c.code = cc) {kd ty n : Nat} {q : ClassId × FieldType} (hK : va_K (dC, dI) vwCl (hp_ty dA) s) (hJ : hp_J dC dI dA κ B g H0 H locs) (hκ : κ a = kd) (ht : hk_t kd = (2, ty, n)) (hq : (hp_ty dA)[ty]? = some q) (hqa : q.1 = dA ty) (hn : n < 2147483648) (hdg : decode cc pc = .ok (.arraylength, 1))
    (kk : ∀ x : Int32, x.toInt = (n : Int) → W p l e R s m args below meth c H locs cells slots Q (F0 m (pc + 1) ls (.int x :: rest))) : W p l e R s m args below meth c H locs cells slots Q (F0 m (pc) ls (.ref a :: rest)) := by
  obtain ⟨⟨F, hM, hO⟩, -⟩ := hJ
  have h := hM a
  rw [hκ, ht] at h
  have h9 := (hK.2 ty q hq).1
  rw [hqa] at h9
  exact W.alen (n := Int32.ofNat n) hx hb h (h9 n (F a)) (by rw [show (arrV (dA ty) n (F a)).slots.size = n from arrV_size _ _ _] <;> rfl) rfl rfl hdg (kk _ (nI_toInt (n := n) (by omega)))
-- calls and returns
theorem hp_calli {post : Int32 → (Nat → Nat → Int) → Prop} {av : Array Value} (hr : va_Run p l e R s m args below meth c H locs cells slots 0 0 (F0 m pc ls st0) rest (hp_Qi dC dI dA κ B post av) (hp_A B)) (hJ : hp_J dC dI dA κ B g H0 H locs)
    (kk : ∀ (r : Int32) (g' : Nat → Nat → Int) (H1 : Heap) (locs1 : List Loc), post r g' → hp_J dC dI dA κ B g' H0 H1 locs1 → W p l e R s m args below meth c H1 locs1 cells slots Q (F0 m (pc + 3) ls (.int r :: rest))) : W p l e R s m args below meth c H locs cells slots Q (F0 m (pc) ls (st0)) := va_calli hr hJ.2 (fun _ _ h => h) (fun _ h => h) (fun r u t H1 locs1 ht hvm hp hb' _ _ hS => kk r u H1 locs1 hp ⟨by obtain ⟨-, -, -, h⟩ := hb'; rw [ht] at h; exact h, hS⟩)
theorem hp_callv {post : (Nat → Nat → Int) → Prop} {av : Array Value} (hr : va_Run p l e R s m args below meth c H locs cells slots 0 0 (F0 m pc ls st0) rest (hp_Qv dC dI dA κ B post av) (hp_A B)) (hJ : hp_J dC dI dA κ B g H0 H locs)
    (kk : ∀ (g' : Nat → Nat → Int) (H1 : Heap) (locs1 : List Loc), post g' → hp_J dC dI dA κ B g' H0 H1 locs1 → W p l e R s m args below meth c H1 locs1 cells slots Q (F0 m (pc + 3) ls (rest))) : W p l e R s m args below meth c H locs cells slots Q (F0 m (pc) ls (st0)) := va_callv hr hJ.2 (fun _ _ h => h) (fun _ h => h) (fun u t H1 locs1 ht hvm hp hb' _ _ hS => kk u H1 locs1 hp ⟨by obtain ⟨-, -, -, h⟩ := hb'; rw [ht] at h; exact h, hS⟩)
theorem hp_callr {kd : Nat} {post : (Nat → Nat → Int) → Prop} {av : Array Value} (hr : va_Run p l e R s m args below meth c H locs cells slots 0 0 (F0 m pc ls st0) rest (hp_Qr dC dI dA κ B kd post av) (hp_A B)) (hJ : hp_J dC dI dA κ B g H0 H locs)
    (kk : ∀ (b : Nat) (g' : Nat → Nat → Int) (H1 : Heap) (locs1 : List Loc), κ b = kd → post g' → hp_J dC dI dA κ B g' H0 H1 locs1 → W p l e R s m args below meth c H1 locs1 cells slots Q (F0 m (pc + 3) ls (.ref b :: rest))) : W p l e R s m args below meth c H locs cells slots Q (F0 m (pc) ls (st0)) := va_callr hr hJ.2 (fun _ _ h => h) (fun _ h => h) (fun u b t H1 locs1 ht hvm hp hb' _ _ hS => kk b u H1 locs1 hb'.2 hp ⟨by obtain ⟨⟨-, -, -, h⟩, -⟩ := hb'; rw [ht] at h; exact h, hS⟩)
theorem hp_iret (hx : p.tables.exec = Jvm.exec) (hb : c.code = cc) (hK : va_K (dC, dI) vwCl (hp_ty dA) s) (hN : hp_N s) (hW : hp_W κ B) (hlocks : meth.locks = false) (hJ : hp_J dC dI dA κ B g s.heap H locs) (hr : meth.sig.returnType = some .int) {post : Int32 → (Nat → Nat → Int) → Prop} {v : Int32} (hp : post v g) (hdg : decode cc pc = .ok (.ireturn, 1)) : W p l e R s m args below meth c H locs cells slots (MQ below (hp_Qi dC dI dA κ B post) args s cells slots (hp_A B)) (F0 m (pc) ls ([.int v])) :=
  W.iret hx hb hr (fun t ht hw => ⟨⟨v, g, rfl, hp, hp_S.of hK hN hW hJ ht hw⟩, hJ.2.F ht⟩) hJ.2.2.2 hdg hlocks
theorem hp_zret (hx : p.tables.exec = Jvm.exec) (hb : c.code = cc) (hK : va_K (dC, dI) vwCl (hp_ty dA) s) (hN : hp_N s) (hW : hp_W κ B) (hlocks : meth.locks = false) (hJ : hp_J dC dI dA κ B g s.heap H locs) (hr : meth.sig.returnType = some .boolean) {post : Int32 → (Nat → Nat → Int) → Prop} {v : Int32} (hv : v.toInt = 0 ∨ v.toInt = 1) (hp : post v g) (hdg : decode cc pc = .ok (.ireturn, 1)) : W p l e R s m args below meth c H locs cells slots (MQ below (hp_Qi dC dI dA κ B post) args s cells slots (hp_A B)) (F0 m (pc) ls ([.int v])) :=
  W.zret hx hb hr (hi_bool hv) (fun t ht hw => ⟨⟨v, g, rfl, hp, hp_S.of hK hN hW hJ ht hw⟩, hJ.2.F ht⟩) hJ.2.2.2 hdg hlocks
theorem hp_vret (hx : p.tables.exec = Jvm.exec) (hb : c.code = cc) (hK : va_K (dC, dI) vwCl (hp_ty dA) s) (hN : hp_N s) (hW : hp_W κ B) (hlocks : meth.locks = false) (hJ : hp_J dC dI dA κ B g s.heap H locs) (hr : meth.sig.returnType = none) {post : (Nat → Nat → Int) → Prop} (hp : post g) (hdg : decode cc pc = .ok (.return_, 1)) : W p l e R s m args below meth c H locs cells slots (MQ below (hp_Qv dC dI dA κ B post) args s cells slots (hp_A B)) (F0 m (pc) ls ([])) :=
  W.vret hx hb hr (fun t ht hw => ⟨⟨g, rfl, hp, hp_S.of hK hN hW hJ ht hw⟩, hJ.2.F ht⟩) hJ.2.2.2 hdg hlocks
theorem hp_aret (hx : p.tables.exec = Jvm.exec) (hb : c.code = cc) (hK : va_K (dC, dI) vwCl (hp_ty dA) s) (hN : hp_N s) (hW : hp_W κ B) (hlocks : meth.locks = false) (hJ : hp_J dC dI dA κ B g s.heap H locs) {C : String} (hr : meth.sig.returnType = some (.object C)) {kd b : Nat} {post : (Nat → Nat → Int) → Prop} (hκ : κ b = kd) (hp : post g) (hdg : decode cc pc = .ok (.areturn, 1)) : W p l e R s m args below meth c H locs cells slots (MQ below (hp_Qr dC dI dA κ B kd post) args s cells slots (hp_A B)) (F0 m (pc) ls ([.ref b])) :=
  W.aret hx hb hr (Or.inl ⟨_, rfl⟩) (Or.inr ⟨_, rfl⟩) (fun t ht hw => ⟨⟨g, b, rfl, hp, hp_S.of hK hN hW hJ ht hw, hκ⟩, hJ.2.F ht⟩) hJ.2.2.2 hdg hlocks
end HPW
end
section
theorem hi_fz {v : Int32} (h : v.toInt = 0 ∨ v.toInt = 1) : fits .boolean (.int v) = true := by
  rcases h with h | h
  · rw [show v = 0 from hi_eq.mpr h]; rfl
  · rw [show v = 1 from hi_eq.mpr h]; rfl
theorem hi_fb {x : Int32} (h1 : -128 ≤ x.toInt) (h2 : x.toInt ≤ 127) : fits .byte (.int x) = true := by
  have h := lg_i2b_small (v := x) h1 (by omega)
  rw [← h]
  exact pk_fb x
theorem hi_nn {x : Int32} (h : 0 ≤ x.toInt) : ¬ x < 0 := fun q => by
  have := hi_lt.mp q
  rw [hi_0] at this
  omega
theorem hi_or9 {x y : Int32} (h1 : 0 ≤ x.toInt) (h2 : x.toInt ≤ 511) (h3 : 0 ≤ y.toInt) (h4 : y.toInt ≤ 511) : 0 ≤ (x ||| y).toInt ∧ (x ||| y).toInt ≤ 511 := by
  obtain ⟨a, ha, rfl⟩ : ∃ a : Nat, a < 512 ∧ x = nI a := ⟨x.toInt.toNat, by omega, hi_eq.mpr (by rw [nI_toInt (by omega)]; omega)⟩
  obtain ⟨b, hb, rfl⟩ : ∃ b : Nat, b < 512 ∧ y = nI b := ⟨y.toInt.toNat, by omega, hi_eq.mpr (by rw [nI_toInt (by omega)]; omega)⟩
  have hlt : a ||| b < 2 ^ 9 := Nat.or_lt_two_pow ha hb
  have h : nI a ||| nI b = nI (a ||| b) := by
    apply Int32.toBitVec_inj.mp
    apply BitVec.eq_of_toNat_eq
    rw [pk_tn (by omega)]
    show ((nI a).toBitVec ||| (nI b).toBitVec).toNat = _
    rw [BitVec.toNat_or, pk_tn (by omega), pk_tn (by omega)]
  rw [h, nI_toInt (by omega)]
  omega
theorem hi_shl8 {x y : Int32} (hy : y.toInt = 8) (hx : 0 ≤ x.toInt ∧ x.toInt ≤ 1) : 0 ≤ (x <<< (y &&& 31)).toInt ∧ (x <<< (y &&& 31)).toInt ≤ 256 := by
  rw [show y = 8 from hi_eq.mpr hy]
  rcases (show x.toInt = 0 ∨ x.toInt = 1 by omega) with h | h
  · rw [show x = 0 from hi_eq.mpr h]; decide
  · rw [show x = 1 from hi_eq.mpr h]; decide
section HPC
variable {p : Program} {l : Launch} {e : Env} {R : Room} {s : State} {m : MethodId} {args : Array Value} {below : List Frame} {meth : Method} {c : Code} {H : Heap} {locs : List Loc} {cells slots : Nat} {Q : State → Prop}
variable {cc : ByteArray} {pc : Nat} {ls : Array Slot} {rest : List Value}
variable {dC : Nat → ClassId} {dI : Nat → Nat → Nat} {dA : Nat → ClassId} {κ : Nat → Nat} {B : Nat} {g : Nat → Nat → Int} {H0 : Heap} {a a0 : Nat}
theorem hq_ior9 (hx : p.tables.exec = Jvm.exec) (hb : c.code = cc) {x y : Int32} (hdg : decode cc pc = .ok (.ior, 1)) (h1 : 0 ≤ x.toInt) (h2 : x.toInt ≤ 511) (h3 : 0 ≤ y.toInt) (h4 : y.toInt ≤ 511)
    (kk : ∀ z : Int32, 0 ≤ z.toInt ∧ z.toInt ≤ 511 → W p l e R s m args below meth c H locs cells slots Q (F0 m (pc + 1) ls (.int z :: rest))) : W p l e R s m args below meth c H locs cells slots Q (F0 m pc ls (.int y :: .int x :: rest)) := lv_ior hx hb hdg (kk _ (hi_or9 h1 h2 h3 h4))
theorem hq_ishl8 (hx : p.tables.exec = Jvm.exec) (hb : c.code = cc) {x y : Int32} (hdg : decode cc pc = .ok (.ishl, 1)) (hy : y.toInt = 8) (h1 : 0 ≤ x.toInt ∧ x.toInt ≤ 1)
    (kk : ∀ z : Int32, 0 ≤ z.toInt ∧ z.toInt ≤ 256 → W p l e R s m args below meth c H locs cells slots Q (F0 m (pc + 1) ls (.int z :: rest))) : W p l e R s m args below meth c H locs cells slots Q (F0 m pc ls (.int y :: .int x :: rest)) := lv_ishl hx hb hdg (kk _ (hi_shl8 hy h1))
set_option maxHeartbeats 1000000 in
/-- bytes of any byte array, laid into a Contents' bytes -/
theorem hp_copyb (hx : p.tables.exec = Jvm.exec) (hb : c.code = cc) (hml : c.maxLocals = ls.size) {own : String} {index : Nat} (hown : s.vm.findClass own = some m.cls) (hlink : (Cond.methodLink own index arraycopyName).before args s = true) (hnat : (Cond.native arraycopyName).before args s = true) (hstat : (Cond.static arraycopyName).before args s = true) (hini : (Cond.initialized "java/lang/System").before args s = true)
    (hK : va_K (dC, dI) vwCl (hp_ty dA) s) (hW : hp_W κ B) (hJ : hp_J dC dI dA κ B g H0 H locs) {cs : Cell} (hcs : H[a0]? = some cs) (harr : s.isArrayOf cs .byte) (hkn : cs.vm ≠ .unknown) (hκ : κ a = 14)
    {sp dp n : Int32} (h1 : 0 ≤ sp.toInt) (h2 : 0 ≤ dp.toInt) (h3 : 0 ≤ n.toInt) (h4 : sp.toInt + n.toInt ≤ (cs.slots.size : Int)) (h5 : dp.toInt + n.toInt ≤ 420) (hel : ∀ i : Nat, i < cs.slots.size → ∃ x : Int32, cs.slots[i]? = some (.int x) ∧ -128 ≤ x.toInt ∧ x.toInt ≤ 127)
    (hframes : 1 ≤ R.frames) (hlocals : (rest.map fun v => v.category).sum + (nativeFrameWords "java/lang/System" "arraycopy" 5 + 11) ≤ R.locals) (hdg : decode cc pc = .ok (.invokestatic index, 3))
    (kk : ∀ (H1 : Heap) (locs1 : List Loc), hp_J dC dI dA κ B g H0 H1 locs1 → W p l e R s m args below meth c H1 locs1 cells slots Q (F0 m (pc + 3) ls rest)) : W p l e R s m args below meth c H locs cells slots Q (F0 m pc ls (.int n :: .int dp :: .ref a :: .int sp :: .ref a0 :: rest)) := by
  intro T hT X
  obtain ⟨⟨F, hM, hO⟩, hS⟩ := hJ
  have hd0 := hM a
  rw [hκ] at hd0
  have hd : H[a]? = some (arrV (dA 1) 420 (F a)) := hd0
  obtain ⟨ho0, k0, hk0, cm0, hkk0⟩ := harr
  obtain ⟨ho1, k1, hk1, cm1, hkk1⟩ := (hK.2 1 _ rfl).1 420 (F a)
  have c1 := hi_cl h1
  have c2 := hi_cl h2
  have c3 := hi_cl h3
  have hget : ∀ i : Nat, i < n.toNatClampNeg → ∃ x : Int32, cs.slots.getD (sp.toNatClampNeg + i) .null = .int x ∧ -128 ≤ x.toInt ∧ x.toInt ≤ 127 := by
    intro i hi
    obtain ⟨x, hx1, hx2⟩ := hel (sp.toNatClampNeg + i) (by omega)
    exact ⟨x, by rw [Array.getD_eq_getD_getElem?, hx1]; rfl, hx2⟩
  obtain ⟨vm', X', step⟩ := X.arraycopy hx hown hlink hnat hstat hini (src := a0) (dst := a) (cs := cs) (cd := arrV (dA 1) 420 (F a)) (srcPos := sp) (destPos := dp) (n := n) (by rw [hT]; exact hcs) (by rw [hT]; exact hd)
    ho0 ho1 hkn (fun h => by cases h) hk0 hk1 hkk0 hkk1 rfl (hi_nn h1) (hi_nn h2) (hi_nn h3) (by omega) (by rw [arrV_size]; omega)
    (fun vm₁ _ i hi => by
      obtain ⟨x, hx1, hx2, hx3⟩ := hget i hi
      rw [hx1]
      exact ⟨hi_fb hx2 hx3, trivial⟩)
    (g := F0 m pc ls (.int n :: .int dp :: .ref a :: .int sp :: .ref a0 :: rest)) rfl (by rw [hml]) (rest := rest) rfl (by rw [hb]; exact hdg) hframes (by show 2 * 0 + _ + _ ≤ _; omega)
  obtain ⟨V, hV, hVb⟩ : ∃ V : Nat → Value, copied cs (arrV (dA 1) 420 (F a)) sp dp n = arrV (dA 1) 420 V ∧ ∀ k, k < 420 → hs_ok κ (g 14 k) (5, 0) (V k) := by
    refine ⟨_, ((show copied cs (arrV (dA 1) 420 (F a)) sp dp n = (arrV (dA 1) 420 (F a)).storePairs dp.toNatClampNeg ((cs.stretch sp.toNatClampNeg n.toNatClampNeg).zipIdx 0) from rfl).trans (va_pairs _ _ _ _ _ _)), fun k hk => ?_⟩
    have hlen : (cs.stretch sp.toNatClampNeg n.toNatClampNeg).length = n.toNatClampNeg := by
      unfold Cell.stretch
      simp
    split
    · next hc =>
      rw [hlen] at hc
      obtain ⟨x, hx1, hx2, hx3⟩ := hget (k - (dp.toNatClampNeg + 0)) (by omega)
      refine ⟨x, ?_, hx2, hx3⟩
      rw [← hx1]
      unfold Cell.stretch
      rw [List.getD_eq_getElem?_getD, List.getElem?_map, List.getElem?_range (by omega)]
      rfl
    · have h9 := hO a k
      rw [hκ] at h9
      exact h9 hk
  rw [hV] at X' step
  have hl : a < H.size := (Array.getElem?_eq_some_iff.mp hd).1
  have hheap : ((T.setVm vm').setCell a (arrV (dA 1) 420 V)).heap = H.setIfInBounds a (arrV (dA 1) 420 V) := by rw [← hT]; rfl
  have oq : ∀ q : Nat, q ≠ a → (H.setIfInBounds a (arrV (dA 1) 420 V))[q]? = H[q]? := fun q hq => by simp [Array.getElem?_setIfInBounds, Ne.symm hq]
  have hBa : B ≤ a := hW.1 a (by rw [hκ]; decide)
  have hM' : hp_M dC dI dA κ (fun b => if b = a then V else F b) (H.setIfInBounds a (arrV (dA 1) 420 V)) := by
    intro b
    by_cases hq : b = a
    · subst hq
      dsimp only
      rw [if_pos rfl, hκ]
      show (H.setIfInBounds b (arrV (dA 1) 420 V))[b]? = some (arrV (dA 1) 420 V)
      simp [Array.getElem?_setIfInBounds, hl]
    · dsimp only
      rw [if_neg hq]
      exact (hM b).kept (oq b hq)
  have hO' : hp_O κ g (fun b => if b = a then V else F b) := by
    intro b k hk
    by_cases hq : b = a
    · subst hq
      dsimp only
      rw [if_pos rfl, hκ]
      rw [hκ] at hk
      exact hVb k hk
    · dsimp only
      rw [if_neg hq]
      exact hO b k hk
  obtain ⟨t, a1, b1⟩ := kk _ _ ⟨⟨_, hM', hO'⟩, by simpa using hS.1, fun q g1 g2 => by
      rw [oq q (fun e => g2 (by rw [e]; exact hBa))]
      exact hS.2.1 q g1 g2, fun q hq => by
      rcases List.mem_append.mp hq with h | h
      · exact hS.2.2 q h
      · obtain ⟨z, -, hz⟩ := List.mem_map.mp h
        rw [← hz]
        exact hBa⟩ _ hheap X'
  exact ⟨t, step t a1, b1⟩
/-- the cell of a byte array of ours, as arraycopy wants it -/
theorem hp_bcell (hK : va_K (dC, dI) vwCl (hp_ty dA) s) (hJ : hp_J dC dI dA κ B g H0 H locs) {kd n : Nat} (hκ : κ a = kd) (ht : hk_t kd = (2, 1, n)) (hs : ∀ j, hk_s kd j = (5, 0)) : ∃ cs : Cell, H[a]? = some cs ∧ s.isArrayOf cs .byte ∧ cs.vm ≠ .unknown ∧ cs.slots.size = n ∧ ∀ i : Nat, i < cs.slots.size → ∃ x : Int32, cs.slots[i]? = some (.int x) ∧ -128 ≤ x.toInt ∧ x.toInt ≤ 127 := by
  obtain ⟨⟨F, hM, hO⟩, -⟩ := hJ
  have h := hM a
  rw [hκ, ht] at h
  refine ⟨_, h, (hK.2 1 _ rfl).1 n (F a), (fun q => by cases q), arrV_size _ _ _, fun i hi => ?_⟩
  rw [arrV_size] at hi
  have ho := hO a i
  rw [hκ, ht, hs] at ho
  obtain ⟨x, hx1, hx2, hx3⟩ := (show ∃ x : Int32, F a i = .int x ∧ -128 ≤ x.toInt ∧ x.toInt ≤ 127 from ho hi)
  exact ⟨x, by rw [arrV_read _ _ hi, hx1], hx2, hx3⟩
end HPC
end
section
set_option maxRecDepth 100000 in
set_option maxHeartbeats 4000000 in
theorem c_X6_isMore (l : Launch) (dC : Nat → ClassId) (dI : Nat → Nat → Nat) (dA : Nat → ClassId) (κ : Nat → Nat) (B : Nat) (g : Nat → Nat → Int) (type : Int32) : Met l yX6_isMore wsX6_isMore ({ frames := 0, cells := 0, slots := 0, locals := 0 } : Room) (hp_Pre dC dI dA κ B g [Value.int type]) (hp_Qi dC dI dA κ B (fun r u => g = u ∧ ((r.toInt = 1 ∧ 4 ≤ type.toInt ∧ type.toInt ≤ 8) ∨ (r.toInt = 0 ∧ (type.toInt < 4 ∨ 8 < type.toInt))))) 0 0 (hp_A B) := by
  refine Met.ofW (cc := cX6_isMore) (maxL := 1) (ret := (some .boolean)) (by decide) rfl ?_
  intro p e s m args below meth c s₁ Bd hml hv
  obtain ⟨rfl, hK, hN, hW, hF⟩ := hv
  have hx := Bd.exec
  have hb := Bd.bytes
  have hr := Bd.returns
  have hts := atoms_spec (ws := wsX6_isMore) Bd.pre
  have hown : s.vm.findClass RX6 = some m.cls := findClass_of_methodNamed Bd.named
  have hlocks := Bd.notSynchronized
  have hJ : hp_J dC dI dA κ B g s.heap s.heap [] := ⟨hF, va_S.rf⟩
  have hl := lv_entry ([Value.int type]) (n := 1) (Nat.le_of_ble_eq_true rfl)
  rw [lg_entry_eq]
  generalize (lg_sl ([Value.int type]) ++ List.replicate (1 - (lg_sl ([Value.int type])).length) Slot.unset).toArray = ls at hl ⊢
  have hl : lv_has ls 1 [(0, .int type)] := hl
  refine lv_iload_n hx hb dX6_isMore_0 rfl (lv_at hl 0 rfl) ?_
  refine hq_iconst hx hb dX6_isMore_1 (by decide) (by decide) (fun z1 ez1 => ?_)
  refine hq_icmp_lt (tgt := 15) hx hb dX6_isMore_2 (by decide) (fun c2 => ?_) (fun c2 => ?_)
  · refine hq_iconst hx hb dX6_isMore_15 (by decide) (by decide) (fun z3 ez3 => ?_)
    exact hp_zret hx hb hK hN hW hlocks hJ hr (by omega) ⟨rfl, by omega⟩ dX6_isMore_16
  · refine lv_iload_n hx hb dX6_isMore_5 rfl (lv_at hl 0 rfl) ?_
    refine hq_bipush hx hb dX6_isMore_6 (by decide) (fun z4 ez4 => ?_)
    refine hq_icmp_gt (tgt := 15) hx hb dX6_isMore_8 (by decide) (fun c5 => ?_) (fun c5 => ?_)
    · refine hq_iconst hx hb dX6_isMore_15 (by decide) (by decide) (fun z6 ez6 => ?_)
      exact hp_zret hx hb hK hN hW hlocks hJ hr (by omega) ⟨rfl, by omega⟩ dX6_isMore_16
    · refine hq_iconst hx hb dX6_isMore_11 (by decide) (by decide) (fun z7 ez7 => ?_)
      refine lv_goto (tgt := 16) hx hb dX6_isMore_12 (by decide) ?_
      exact hp_zret hx hb hK hN hW hlocks hJ hr (by omega) ⟨rfl, by omega⟩ dX6_isMore_16
set_option maxRecDepth 100000 in
set_option maxHeartbeats 4000000 in
theorem c_X6_isPort (l : Launch) (dC : Nat → ClassId) (dI : Nat → Nat → Nat) (dA : Nat → ClassId) (κ : Nat → Nat) (B : Nat) (g : Nat → Nat → Int) (p1 : Int32) : Met l yX6_isPort wsX6_isPort ({ frames := 0, cells := 0, slots := 0, locals := 0 } : Room) (hp_Pre dC dI dA κ B g [Value.int p1]) (hp_Qi dC dI dA κ B (fun r u => g = u ∧ ((r.toInt = 1 ∧ 0 ≤ p1.toInt ∧ p1.toInt < 4) ∨ (r.toInt = 0 ∧ (p1.toInt < 0 ∨ 4 ≤ p1.toInt))))) 0 0 (hp_A B) := by
  refine Met.ofW (cc := cX6_isPort) (maxL := 1) (ret := (some .boolean)) (by decide) rfl ?_
  intro p e s m args below meth c s₁ Bd hml hv
  obtain ⟨rfl, hK, hN, hW, hF⟩ := hv
  have hx := Bd.exec
  have hb := Bd.bytes
  have hr := Bd.returns
  have hts := atoms_spec (ws := wsX6_isPort) Bd.pre
  have hown : s.vm.findClass RX6 = some m.cls := findClass_of_methodNamed Bd.named
  have hlocks := Bd.notSynchronized
  have hJ : hp_J dC dI dA κ B g s.heap s.heap [] := ⟨hF, va_S.rf⟩
  have hl := lv_entry ([Value.int p1]) (n := 1) (Nat.le_of_ble_eq_true rfl)
  rw [lg_entry_eq]
  generalize (lg_sl ([Value.int p1]) ++ List.replicate (1 - (lg_sl ([Value.int p1])).length) Slot.unset).toArray = ls at hl ⊢
  have hl : lv_has ls 1 [(0, .int p1)] := hl
  refine lv_iload_n hx hb dX6_isPort_0 rfl (lv_at hl 0 rfl) ?_
  refine hq_if_lt (tgt := 13) hx hb dX6_isPort_1 (by decide) (fun c1 => ?_) (fun c1 => ?_)
  · refine hq_iconst hx hb dX6_isPort_13 (by decide) (by decide) (fun z2 ez2 => ?_)
    exact hp_zret hx hb hK hN hW hlocks hJ hr (by omega) ⟨rfl, by omega⟩ dX6_isPort_14
  · refine lv_iload_n hx hb dX6_isPort_4 rfl (lv_at hl 0 rfl) ?_
    refine hq_iconst hx hb dX6_isPort_5 (by decide) (by decide) (fun z3 ez3 => ?_)
    refine hq_icmp_ge (tgt := 13) hx hb dX6_isPort_6 (by decide) (fun c4 => ?_) (fun c4 => ?_)
    · refine hq_iconst hx hb dX6_isPort_13 (by decide) (by decide) (fun z5 ez5 => ?_)
      exact hp_zret hx hb hK hN hW hlocks hJ hr (by omega) ⟨rfl, by omega⟩ dX6_isPort_14
    · refine hq_iconst hx hb dX6_isPort_9 (by decide) (by decide) (fun z6 ez6 => ?_)
      refine lv_goto (tgt := 14) hx hb dX6_isPort_10 (by decide) ?_
      exact hp_zret hx hb hK hN hW hlocks hJ hr (by omega) ⟨rfl, by omega⟩ dX6_isPort_14
set_option maxRecDepth 100000 in
set_option maxHeartbeats 4000000 in
theorem c_X6_isTellable (l : Launch) (dC : Nat → ClassId) (dI : Nat → Nat → Nat) (dA : Nat → ClassId) (κ : Nat → Nat) (B : Nat) (g : Nat → Nat → Int) (type : Int32) (size : Int32) : Met l yX6_isTellable wsX6_isTellable ({ frames := 1, cells := 0, slots := 0, locals := 20 } : Room) (hp_Pre dC dI dA κ B g [Value.int type, Value.int size]) (hp_Qi dC dI dA κ B (fun r u => g = u ∧ ((r.toInt = 1 ∧ (((type.toInt = 1 ∨ type.toInt = 2) ∧ 2 ≤ size.toInt ∧ size.toInt ≤ 59) ∨ (4 ≤ type.toInt ∧ type.toInt ≤ 8 ∧ size.toInt ≤ 60))) ∨ (r.toInt = 0 ∧ ¬ (((type.toInt = 1 ∨ type.toInt = 2) ∧ 2 ≤ size.toInt ∧ size.toInt ≤ 59) ∨ (4 ≤ type.toInt ∧ type.toInt ≤ 8 ∧ size.toInt ≤ 60)))))) 0 0 (hp_A B) := by
  refine Met.ofW (cc := cX6_isTellable) (maxL := 2) (ret := (some .boolean)) (by decide) rfl ?_
  intro p e s m args below meth c s₁ Bd hml hv
  obtain ⟨rfl, hK, hN, hW, hF⟩ := hv
  have hx := Bd.exec
  have hb := Bd.bytes
  have hr := Bd.returns
  have hts := atoms_spec (ws := wsX6_isTellable) Bd.pre
  have hown : s.vm.findClass RX6 = some m.cls := findClass_of_methodNamed Bd.named
  have hlocks := Bd.notSynchronized
  have hJ : hp_J dC dI dA κ B g s.heap s.heap [] := ⟨hF, va_S.rf⟩
  have hl := lv_entry ([Value.int type, Value.int size]) (n := 2) (Nat.le_of_ble_eq_true rfl)
  rw [lg_entry_eq]
  generalize (lg_sl ([Value.int type, Value.int size]) ++ List.replicate (2 - (lg_sl ([Value.int type, Value.int size])).length) Slot.unset).toArray = ls at hl ⊢
  have hl : lv_has ls 2 [(0, .int type), (1, .int size)] := hl
  refine lv_iload_n hx hb dX6_isTellable_0 rfl (lv_at hl 0 rfl) ?_
  refine hq_iconst hx hb dX6_isTellable_1 (by decide) (by decide) (fun z1 ez1 => ?_)
  refine hq_icmp_eq (tgt := 10) hx hb dX6_isTellable_2 (by decide) (fun c2 => ?_) (fun c2 => ?_)
  · refine lv_iload_n hx hb dX6_isTellable_10 rfl (lv_at hl 1 rfl) ?_
    refine hq_iconst hx hb dX6_isTellable_11 (by decide) (by decide) (fun z3 ez3 => ?_)
    refine hq_icmp_lt (tgt := 25) hx hb dX6_isTellable_12 (by decide) (fun c4 => ?_) (fun c4 => ?_)
    · refine hq_iconst hx hb dX6_isTellable_25 (by decide) (by decide) (fun z5 ez5 => ?_)
      exact hp_zret hx hb hK hN hW hlocks hJ hr (by omega) ⟨rfl, by omega⟩ dX6_isTellable_26
    · refine lv_iload_n hx hb dX6_isTellable_15 rfl (lv_at hl 1 rfl) ?_
      refine hq_bipush hx hb dX6_isTellable_16 (by decide) (fun z6 ez6 => ?_)
      refine hq_icmp_gt (tgt := 25) hx hb dX6_isTellable_18 (by decide) (fun c7 => ?_) (fun c7 => ?_)
      · refine hq_iconst hx hb dX6_isTellable_25 (by decide) (by decide) (fun z8 ez8 => ?_)
        exact hp_zret hx hb hK hN hW hlocks hJ hr (by omega) ⟨rfl, by omega⟩ dX6_isTellable_26
      · refine hq_iconst hx hb dX6_isTellable_21 (by decide) (by decide) (fun z9 ez9 => ?_)
        refine lv_goto (tgt := 26) hx hb dX6_isTellable_22 (by decide) ?_
        exact hp_zret hx hb hK hN hW hlocks hJ hr (by omega) ⟨rfl, by omega⟩ dX6_isTellable_26
  · refine lv_iload_n hx hb dX6_isTellable_5 rfl (lv_at hl 0 rfl) ?_
    refine hq_iconst hx hb dX6_isTellable_6 (by decide) (by decide) (fun z10 ez10 => ?_)
    refine hq_icmp_ne (tgt := 27) hx hb dX6_isTellable_7 (by decide) (fun c11 => ?_) (fun c11 => ?_)
    · refine lv_iload_n hx hb dX6_isTellable_27 rfl (lv_at hl 0 rfl) ?_
      refine hp_calli (va_runS (As := [.int type]) (rest := []) ⟨hx, hb, hml, hown, hts⟩ (c_X6_isMore l dC dI dA κ B g type) (va_cwS 1 hts gX6_isTellable_X6_isMore rfl rfl rfl (by decide +kernel) ⟨Nat.le_of_ble_eq_true rfl, Nat.le_of_ble_eq_true rfl⟩) (hp_preS [.int type] hK hN hW hJ) rfl rfl hl.1 rfl (lv_room (Nat.le_of_ble_eq_true rfl)) dX6_isTellable_28 ⟨Nat.zero_le _, Nat.zero_le _⟩) hJ (fun x13 g12 H locs hp hJ => ?_)
      obtain ⟨rfl, f14⟩ := hp
      refine hq_if_eq (tgt := 44) hx hb dX6_isTellable_31 (by decide) (fun c15 => ?_) (fun c15 => ?_)
      · refine hq_iconst hx hb dX6_isTellable_44 (by decide) (by decide) (fun z16 ez16 => ?_)
        exact hp_zret hx hb hK hN hW hlocks hJ hr (by omega) ⟨rfl, by omega⟩ dX6_isTellable_45
      · refine lv_iload_n hx hb dX6_isTellable_34 rfl (lv_at hl 1 rfl) ?_
        refine hq_bipush hx hb dX6_isTellable_35 (by decide) (fun z17 ez17 => ?_)
        refine hq_icmp_gt (tgt := 44) hx hb dX6_isTellable_37 (by decide) (fun c18 => ?_) (fun c18 => ?_)
        · refine hq_iconst hx hb dX6_isTellable_44 (by decide) (by decide) (fun z19 ez19 => ?_)
          exact hp_zret hx hb hK hN hW hlocks hJ hr (by omega) ⟨rfl, by omega⟩ dX6_isTellable_45
        · refine hq_iconst hx hb dX6_isTellable_40 (by decide) (by decide) (fun z20 ez20 => ?_)
          refine lv_goto (tgt := 45) hx hb dX6_isTellable_41 (by decide) ?_
          exact hp_zret hx hb hK hN hW hlocks hJ hr (by omega) ⟨rfl, by omega⟩ dX6_isTellable_45
    · refine lv_iload_n hx hb dX6_isTellable_10 rfl (lv_at hl 1 rfl) ?_
      refine hq_iconst hx hb dX6_isTellable_11 (by decide) (by decide) (fun z21 ez21 => ?_)
      refine hq_icmp_lt (tgt := 25) hx hb dX6_isTellable_12 (by decide) (fun c22 => ?_) (fun c22 => ?_)
      · refine hq_iconst hx hb dX6_isTellable_25 (by decide) (by decide) (fun z23 ez23 => ?_)
        exact hp_zret hx hb hK hN hW hlocks hJ hr (by omega) ⟨rfl, by omega⟩ dX6_isTellable_26
      · refine lv_iload_n hx hb dX6_isTellable_15 rfl (lv_at hl 1 rfl) ?_
        refine hq_bipush hx hb dX6_isTellable_16 (by decide) (fun z24 ez24 => ?_)
        refine hq_icmp_gt (tgt := 25) hx hb dX6_isTellable_18 (by decide) (fun c25 => ?_) (fun c25 => ?_)
        · refine hq_iconst hx hb dX6_isTellable_25 (by decide) (by decide) (fun z26 ez26 => ?_)
          exact hp_zret hx hb hK hN hW hlocks hJ hr (by omega) ⟨rfl, by omega⟩ dX6_isTellable_26
        · refine hq_iconst hx hb dX6_isTellable_21 (by decide) (by decide) (fun z27 ez27 => ?_)
          refine lv_goto (tgt := 26) hx hb dX6_isTellable_22 (by decide) ?_
          exact hp_zret hx hb hK hN hW hlocks hJ hr (by omega) ⟨rfl, by omega⟩ dX6_isTellable_26
set_option maxRecDepth 100000 in
set_option maxHeartbeats 4000000 in
theorem c_J7_fill_53178 (l : Launch) (dC : Nat → ClassId) (dI : Nat → Nat → Nat) (dA : Nat → ClassId) (κ : Nat → Nat) (B : Nat) (g : Nat → Nat → Int) (a : Nat) (ka : κ a = 13) (val : Int32) (hv : -1 ≤ val.toInt ∧ val.toInt ≤ 0) : Met l yJ7_fill_53178 wsJ7_fill_53178 ({ frames := 0, cells := 0, slots := 0, locals := 0 } : Room) (hp_Pre dC dI dA κ B g [Value.ref a, Value.int val]) (hp_Qv dC dI dA κ B (fun u => g = u)) 0 0 (hp_A B) := by
  refine Met.ofW (cc := cJ7_fill_53178) (maxL := 4) (ret := none) (by decide) rfl ?_
  intro p e s m args below meth c s₁ Bd hml hv
  obtain ⟨rfl, hK, hN, hW, hF⟩ := hv
  have hx := Bd.exec
  have hb := Bd.bytes
  have hr := Bd.returns
  have hts := atoms_spec (ws := wsJ7_fill_53178) Bd.pre
  have hown : s.vm.findClass RJ7 = some m.cls := findClass_of_methodNamed Bd.named
  have hlocks := Bd.notSynchronized
  have hJ : hp_J dC dI dA κ B g s.heap s.heap [] := ⟨hF, va_S.rf⟩
  have hl := lv_entry ([Value.ref a, Value.int val]) (n := 4) (Nat.le_of_ble_eq_true rfl)
  rw [lg_entry_eq]
  generalize (lg_sl ([Value.ref a, Value.int val]) ++ List.replicate (4 - (lg_sl ([Value.ref a, Value.int val])).length) Slot.unset).toArray = ls at hl ⊢
  have hl : lv_has ls 4 [(0, .ref a), (1, .int val)] := hl
  refine hq_iconst hx hb dJ7_fill_53178_0 (by decide) (by decide) (fun z1 ez1 => ?_)
  refine lv_istore_n (lv' := [(2, .int z1), (0, .ref a), (1, .int val)]) hx hb dJ7_fill_53178_1 rfl hl (by decide) rfl (fun ls hl => ?_)
  refine lv_aload_n hx hb dJ7_fill_53178_2 rfl (lv_at hl 1 rfl) ?_
  refine hp_alen (q := (dA 0, .int)) (ty := 0) (n := 9) hx hb hK hJ ka rfl rfl rfl (by decide) dJ7_fill_53178_3 (fun x2 ex2 => ?_)
  have ex2 : x2.toInt = 9 := ex2
  refine lv_istore_n (lv' := [(3, .int x2), (2, .int z1), (0, .ref a), (1, .int val)]) hx hb dJ7_fill_53178_4 rfl hl (by decide) rfl (fun ls hl => ?_)
  have lp4 : ∀ (nlp4 : Nat) (v3 : Int32) (H : Heap) (locs : List Loc) (ls : Array Slot), (0 ≤ v3.toInt) → (v3.toInt ≤ 9) → (9 - v3.toInt < (nlp4 : Int)) → hp_J dC dI dA κ B g s.heap H locs → lv_has ls 4 [(0, .ref a), (1, .int val), (2, .int v3), (3, .int x2)] → W p l e (headSpec wsJ7_fill_53178 ({ frames := 0, cells := 0, slots := 0, locals := 0 } : Room)).room s m ([Value.ref a, Value.int val] : List Value).toArray below meth c H locs 0 0 (MQ below (hp_Qv dC dI dA κ B (fun u => g = u)) ([Value.ref a, Value.int val] : List Value).toArray s 0 0 (hp_A B)) (F0 m 5 ls []) := by
    intro nlp4
    induction nlp4 with
    | zero => intro v3 H locs ls iv6 iv7 hm5 hJ hl; exact absurd hm5 (by omega)
    | succ nlp4 ihlp4 =>
      intro v3 H locs ls iv6 iv7 hm5 hJ hl
      refine lv_iload_n hx hb dJ7_fill_53178_5 rfl (lv_at hl 2 rfl) ?_
      refine lv_iload_n hx hb dJ7_fill_53178_6 rfl (lv_at hl 3 rfl) ?_
      refine hq_icmp_ge (tgt := 20) hx hb dJ7_fill_53178_7 (by decide) (fun c8 => ?_) (fun c8 => ?_)
      · exact hp_vret hx hb hK hN hW hlocks hJ hr rfl dJ7_fill_53178_20
      · refine lv_aload_n hx hb dJ7_fill_53178_10 rfl (lv_at hl 0 rfl) ?_
        refine lv_iload_n hx hb dJ7_fill_53178_11 rfl (lv_at hl 2 rfl) ?_
        refine lv_iload_n hx hb dJ7_fill_53178_12 rfl (lv_at hl 1 rfl) ?_
        refine hp_iast (kd := 13) (n := 9) hx hb hK hJ ka rfl (by omega) (by omega) (by decide) hW (hk_s13 (by omega)) (hs13_n _) (hs13_o (by omega) (by omega)) dJ7_fill_53178_13 (fun H locs hJ => ?_)
        refine hq_iinc (k := 2) (lv' := fun (z9 : Int32) => [(2, .int z9), (0, .ref a), (1, .int val), (3, .int x2)]) hx hb dJ7_fill_53178_14 hl rfl (by decide) (by decide) (by omega) (by omega) (by decide) (fun _ => rfl) (fun x9 ls ex9 hl => ?_)
        have hl : lv_has ls 4 [(2, .int x9), (0, .ref a), (1, .int val), (3, .int x2)] := hl
        refine lv_goto (tgt := 5) hx hb dJ7_fill_53178_17 (by decide) ?_
        exact ihlp4 x9 _ _ ls (by omega) (by omega) (by omega) hJ (lv_sub hl [1, 2, 0, 3] rfl)
  exact lp4 ((9 - z1.toInt).toNat + 1) z1 _ _ ls (by omega) (by omega) (by omega) hJ (lv_sub hl [2, 3, 1, 0] rfl)
set_option maxRecDepth 100000 in
set_option maxHeartbeats 4000000 in
theorem c_X0_isKept (l : Launch) (dC : Nat → ClassId) (dI : Nat → Nat → Nat) (dA : Nat → ClassId) (κ : Nat → Nat) (B : Nat) (g : Nat → Nat → Int) (type : Int32) : Met l yX0_isKept wsX0_isKept ({ frames := 1, cells := 0, slots := 0, locals := 20 } : Room) (hp_Pre dC dI dA κ B g [Value.int type]) (hp_Qi dC dI dA κ B (fun r u => g = u ∧ ((r.toInt = 1 ∧ (type.toInt = 1 ∨ type.toInt = 2 ∨ (4 ≤ type.toInt ∧ type.toInt ≤ 8))) ∨ (r.toInt = 0 ∧ ¬ (type.toInt = 1 ∨ type.toInt = 2 ∨ (4 ≤ type.toInt ∧ type.toInt ≤ 8)))))) 0 0 (hp_A B) := by
  refine Met.ofW (cc := cX0_isKept) (maxL := 1) (ret := (some .boolean)) (by decide) rfl ?_
  intro p e s m args below meth c s₁ Bd hml hv
  obtain ⟨rfl, hK, hN, hW, hF⟩ := hv
  have hx := Bd.exec
  have hb := Bd.bytes
  have hr := Bd.returns
  have hts := atoms_spec (ws := wsX0_isKept) Bd.pre
  have hown : s.vm.findClass RX0 = some m.cls := findClass_of_methodNamed Bd.named
  have hlocks := Bd.notSynchronized
  have hJ : hp_J dC dI dA κ B g s.heap s.heap [] := ⟨hF, va_S.rf⟩
  have hl := lv_entry ([Value.int type]) (n := 1) (Nat.le_of_ble_eq_true rfl)
  rw [lg_entry_eq]
  generalize (lg_sl ([Value.int type]) ++ List.replicate (1 - (lg_sl ([Value.int type])).length) Slot.unset).toArray = ls at hl ⊢
  have hl : lv_has ls 1 [(0, .int type)] := hl
  refine lv_iload_n hx hb dX0_isKept_0 rfl (lv_at hl 0 rfl) ?_
  refine hq_iconst hx hb dX0_isKept_1 (by decide) (by decide) (fun z1 ez1 => ?_)
  refine hq_icmp_eq (tgt := 17) hx hb dX0_isKept_2 (by decide) (fun c2 => ?_) (fun c2 => ?_)
  · refine hq_iconst hx hb dX0_isKept_17 (by decide) (by decide) (fun z3 ez3 => ?_)
    refine lv_goto (tgt := 22) hx hb dX0_isKept_18 (by decide) ?_
    exact hp_zret hx hb hK hN hW hlocks hJ hr (by omega) ⟨rfl, by omega⟩ dX0_isKept_22
  · refine lv_iload_n hx hb dX0_isKept_5 rfl (lv_at hl 0 rfl) ?_
    refine hq_iconst hx hb dX0_isKept_6 (by decide) (by decide) (fun z4 ez4 => ?_)
    refine hq_icmp_eq (tgt := 17) hx hb dX0_isKept_7 (by decide) (fun c5 => ?_) (fun c5 => ?_)
    · refine hq_iconst hx hb dX0_isKept_17 (by decide) (by decide) (fun z6 ez6 => ?_)
      refine lv_goto (tgt := 22) hx hb dX0_isKept_18 (by decide) ?_
      exact hp_zret hx hb hK hN hW hlocks hJ hr (by omega) ⟨rfl, by omega⟩ dX0_isKept_22
    · refine lv_iload_n hx hb dX0_isKept_10 rfl (lv_at hl 0 rfl) ?_
      refine hp_calli (va_runSN (As := [.int type]) (rest := []) ⟨hx, hb, hml, hown, hts⟩ (c_X6_isMore l dC dI dA κ B g type) ⟨va_cnB 1 hts gX0_isKept_X6_isMore_n22 rfl rfl rfl (hN _ (List.mem_of_getElem? (i := 4) rfl)) (hts (.initialized RX6) (List.mem_of_getElem? (i := 2) rfl)) (by decide +kernel) ⟨Nat.le_of_ble_eq_true rfl, Nat.le_of_ble_eq_true rfl⟩, (hts (.static yX6_isMore) (List.mem_of_getElem? (i := 1) rfl)), trivial⟩ (hp_preS [.int type] hK hN hW hJ) rfl rfl hl.1 rfl (lv_room (Nat.le_of_ble_eq_true rfl)) dX0_isKept_11 ⟨Nat.zero_le _, Nat.zero_le _⟩) hJ (fun x8 g7 H locs hp hJ => ?_)
      obtain ⟨rfl, f9⟩ := hp
      refine hq_if_eq (tgt := 21) hx hb dX0_isKept_14 (by decide) (fun c10 => ?_) (fun c10 => ?_)
      · refine hq_iconst hx hb dX0_isKept_21 (by decide) (by decide) (fun z11 ez11 => ?_)
        exact hp_zret hx hb hK hN hW hlocks hJ hr (by omega) ⟨rfl, by omega⟩ dX0_isKept_22
      · refine hq_iconst hx hb dX0_isKept_17 (by decide) (by decide) (fun z12 ez12 => ?_)
        refine lv_goto (tgt := 22) hx hb dX0_isKept_18 (by decide) ?_
        exact hp_zret hx hb hK hN hW hlocks hJ hr (by omega) ⟨rfl, by omega⟩ dX0_isKept_22
set_option maxRecDepth 100000 in
set_option maxHeartbeats 4000000 in
theorem c_X0_startOf (l : Launch) (dC : Nat → ClassId) (dI : Nat → Nat → Nat) (dA : Nat → ClassId) (κ : Nat → Nat) (B : Nat) (g : Nat → Nat → Int) (type : Int32) (ht0 : 0 ≤ type.toInt) (ht8 : type.toInt ≤ 8) : Met l yX0_startOf wsX0_startOf ({ frames := 0, cells := 0, slots := 0, locals := 0 } : Room) (hp_Pre dC dI dA κ B g [Value.int type]) (hp_Qi dC dI dA κ B (fun r u => g = u ∧ ((type.toInt < 3 ∧ r.toInt = (type.toInt - 1) * 60) ∨ (3 ≤ type.toInt ∧ r.toInt = (type.toInt - 2) * 60)))) 0 0 (hp_A B) := by
  refine Met.ofW (cc := cX0_startOf) (maxL := 1) (ret := (some .int)) (by decide) rfl ?_
  intro p e s m args below meth c s₁ Bd hml hv
  obtain ⟨rfl, hK, hN, hW, hF⟩ := hv
  have hx := Bd.exec
  have hb := Bd.bytes
  have hr := Bd.returns
  have hts := atoms_spec (ws := wsX0_startOf) Bd.pre
  have hown : s.vm.findClass RX0 = some m.cls := findClass_of_methodNamed Bd.named
  have hlocks := Bd.notSynchronized
  have hJ : hp_J dC dI dA κ B g s.heap s.heap [] := ⟨hF, va_S.rf⟩
  have hl := lv_entry ([Value.int type]) (n := 1) (Nat.le_of_ble_eq_true rfl)
  rw [lg_entry_eq]
  generalize (lg_sl ([Value.int type]) ++ List.replicate (1 - (lg_sl ([Value.int type])).length) Slot.unset).toArray = ls at hl ⊢
  have hl : lv_has ls 1 [(0, .int type)] := hl
  refine lv_iload_n hx hb dX0_startOf_0 rfl (lv_at hl 0 rfl) ?_
  refine hq_iconst hx hb dX0_startOf_1 (by decide) (by decide) (fun z1 ez1 => ?_)
  refine hq_icmp_ge (tgt := 11) hx hb dX0_startOf_2 (by decide) (fun c2 => ?_) (fun c2 => ?_)
  · refine lv_iload_n hx hb dX0_startOf_11 rfl (lv_at hl 0 rfl) ?_
    refine hq_iconst hx hb dX0_startOf_12 (by decide) (by decide) (fun z3 ez3 => ?_)
    refine hq_isub hx hb dX0_startOf_13 (by omega) (by omega) (fun x4 ex4 => ?_)
    refine hq_bipush hx hb dX0_startOf_14 (by decide) (fun z5 ez5 => ?_)
    refine hq_imul (w := x4.toInt * 60) hx hb dX0_startOf_16 (by rw [ez5]) (by omega) (by omega) (fun x6 ex6 => ?_)
    exact hp_iret hx hb hK hN hW hlocks hJ hr ⟨rfl, by omega⟩ dX0_startOf_17
  · refine lv_iload_n hx hb dX0_startOf_5 rfl (lv_at hl 0 rfl) ?_
    refine hq_iconst hx hb dX0_startOf_6 (by decide) (by decide) (fun z7 ez7 => ?_)
    refine hq_isub hx hb dX0_startOf_7 (by omega) (by omega) (fun x8 ex8 => ?_)
    refine lv_goto (tgt := 14) hx hb dX0_startOf_8 (by decide) ?_
    refine hq_bipush hx hb dX0_startOf_14 (by decide) (fun z9 ez9 => ?_)
    refine hq_imul (w := x8.toInt * 60) hx hb dX0_startOf_16 (by rw [ez9]) (by omega) (by omega) (fun x10 ex10 => ?_)
    exact hp_iret hx hb hK hN hW hlocks hJ hr ⟨rfl, by omega⟩ dX0_startOf_17
theorem iX0_clear_X0 : ∀ w ∈ wsX00, w ∈ wsX0_clear := fun _ h => List.mem_cons_of_mem _ (List.mem_append_right _ h)
set_option maxRecDepth 100000 in
set_option maxHeartbeats 4000000 in
theorem c_X0_clear (l : Launch) (dC : Nat → ClassId) (dI : Nat → Nat → Nat) (dA : Nat → ClassId) (κ : Nat → Nat) (B : Nat) (g : Nat → Nat → Int) (h0 : Nat) (k0 : κ h0 = 2) : Met l yX0_clear wsX0_clear ({ frames := 1, cells := 0, slots := 0, locals := 23 } : Room) (hp_Pre dC dI dA κ B g [Value.ref h0]) (hp_Qv dC dI dA κ B (fun u => g = u)) 0 0 (hp_A B) := by
  refine Met.ofW (cc := cX0_clear) (maxL := 1) (ret := none) (by decide) rfl ?_
  intro p e s m args below meth c s₁ Bd hml hv
  obtain ⟨rfl, hK, hN, hW, hF⟩ := hv
  have hx := Bd.exec
  have hb := Bd.bytes
  have hr := Bd.returns
  have hts := atoms_spec (ws := wsX0_clear) Bd.pre
  have hown : s.vm.findClass RX0 = some m.cls := findClass_of_methodNamed Bd.named
  have hlocks := Bd.notSynchronized
  have hJ : hp_J dC dI dA κ B g s.heap s.heap [] := ⟨hF, va_S.rf⟩
  have hl := lv_entry ([Value.ref h0]) (n := 1) (Nat.le_of_ble_eq_true rfl)
  rw [lg_entry_eq]
  generalize (lg_sl ([Value.ref h0]) ++ List.replicate (1 - (lg_sl ([Value.ref h0])).length) Slot.unset).toArray = ls at hl ⊢
  have hl : lv_has ls 1 [(0, .ref h0)] := hl
  refine lv_aload_n hx hb dX0_clear_0 rfl (lv_at hl 0 rfl) ?_
  refine hp_getr (C := RX0) (T := TX0) (N := 2) (ci := 0) (kd := 2) hx hb hts iX0_clear_X0 hown hK hJ k0 rfl rfl 0 (by decide) (hts (.fieldLink RX0 9 "NeighborBook$Contents" "sizes" "[I") (List.mem_of_getElem? (i := 1) rfl)) (fun _ h9 => h9) rfl dX0_clear_1 (fun b1 kb1 => ?_)
  refine hq_iconst hx hb dX0_clear_4 (by decide) (by decide) (fun z2 ez2 => ?_)
  refine hp_callv (va_runS (As := [.ref b1, .int z2]) (rest := []) ⟨hx, hb, hml, hown, hts⟩ (c_J7_fill_53178 l dC dI dA κ B g b1 kb1 z2 (by omega)) (va_cwS 2 hts gX0_clear_J7_fill_53178 rfl rfl rfl (by decide +kernel) ⟨Nat.le_of_ble_eq_true rfl, Nat.le_of_ble_eq_true rfl⟩) (hp_preS [.ref b1, .int z2] hK hN hW hJ) rfl rfl hl.1 rfl (lv_room (Nat.le_of_ble_eq_true rfl)) dX0_clear_5 ⟨Nat.zero_le _, Nat.zero_le _⟩) hJ (fun g3 H locs hp hJ => ?_)
  subst hp
  exact hp_vret hx hb hK hN hW hlocks hJ hr rfl dX0_clear_8
theorem iX0_sizeOf_X0 : ∀ w ∈ wsX00, w ∈ wsX0_sizeOf := fun _ h => List.mem_cons_of_mem _ (List.mem_append_right _ h)
set_option maxRecDepth 100000 in
set_option maxHeartbeats 4000000 in
theorem c_X0_sizeOf (l : Launch) (dC : Nat → ClassId) (dI : Nat → Nat → Nat) (dA : Nat → ClassId) (κ : Nat → Nat) (B : Nat) (g : Nat → Nat → Int) (h0 : Nat) (k0 : κ h0 = 2) (type : Int32) : Met l yX0_sizeOf wsX0_sizeOf ({ frames := 0, cells := 0, slots := 0, locals := 0 } : Room) (hp_Pre dC dI dA κ B g [Value.ref h0, Value.int type]) (hp_Qi dC dI dA κ B (fun r u => g = u ∧ -1 ≤ r.toInt ∧ r.toInt ≤ 60 ∧ (0 < r.toInt → (type.toInt = 1 ∨ type.toInt = 2 ∨ (4 ≤ type.toInt ∧ type.toInt ≤ 8))) ∧ (type.toInt < 0 ∨ 8 < type.toInt → r.toInt = -1))) 0 0 (hp_A B) := by
  refine Met.ofW (cc := cX0_sizeOf) (maxL := 2) (ret := (some .int)) (by decide) rfl ?_
  intro p e s m args below meth c s₁ Bd hml hv
  obtain ⟨rfl, hK, hN, hW, hF⟩ := hv
  have hx := Bd.exec
  have hb := Bd.bytes
  have hr := Bd.returns
  have hts := atoms_spec (ws := wsX0_sizeOf) Bd.pre
  have hown : s.vm.findClass RX0 = some m.cls := findClass_of_methodNamed Bd.named
  have hlocks := Bd.notSynchronized
  have hJ : hp_J dC dI dA κ B g s.heap s.heap [] := ⟨hF, va_S.rf⟩
  have hl := lv_entry ([Value.ref h0, Value.int type]) (n := 2) (Nat.le_of_ble_eq_true rfl)
  rw [lg_entry_eq]
  generalize (lg_sl ([Value.ref h0, Value.int type]) ++ List.replicate (2 - (lg_sl ([Value.ref h0, Value.int type])).length) Slot.unset).toArray = ls at hl ⊢
  have hl : lv_has ls 2 [(0, .ref h0), (1, .int type)] := hl
  refine lv_iload_n hx hb dX0_sizeOf_0 rfl (lv_at hl 1 rfl) ?_
  refine hq_if_lt (tgt := 22) hx hb dX0_sizeOf_1 (by decide) (fun c1 => ?_) (fun c1 => ?_)
  · refine hq_iconst hx hb dX0_sizeOf_22 (by decide) (by decide) (fun z2 ez2 => ?_)
    exact hp_iret hx hb hK hN hW hlocks hJ hr ⟨rfl, by omega⟩ dX0_sizeOf_23
  · refine lv_iload_n hx hb dX0_sizeOf_4 rfl (lv_at hl 1 rfl) ?_
    refine lv_aload_n hx hb dX0_sizeOf_5 rfl (lv_at hl 0 rfl) ?_
    refine hp_getr (C := RX0) (T := TX0) (N := 2) (ci := 0) (kd := 2) hx hb hts iX0_sizeOf_X0 hown hK hJ k0 rfl rfl 0 (by decide) (hts (.fieldLink RX0 9 "NeighborBook$Contents" "sizes" "[I") (List.mem_of_getElem? (i := 1) rfl)) (fun _ h9 => h9) rfl dX0_sizeOf_6 (fun b3 kb3 => ?_)
    refine hp_alen (q := (dA 0, .int)) (ty := 0) (n := 9) hx hb hK hJ kb3 rfl rfl rfl (by decide) dX0_sizeOf_9 (fun x4 ex4 => ?_)
    have ex4 : x4.toInt = 9 := ex4
    refine hq_icmp_ge (tgt := 22) hx hb dX0_sizeOf_10 (by decide) (fun c5 => ?_) (fun c5 => ?_)
    · refine hq_iconst hx hb dX0_sizeOf_22 (by decide) (by decide) (fun z6 ez6 => ?_)
      exact hp_iret hx hb hK hN hW hlocks hJ hr ⟨rfl, by omega⟩ dX0_sizeOf_23
    · refine lv_aload_n hx hb dX0_sizeOf_13 rfl (lv_at hl 0 rfl) ?_
      refine hp_getr (C := RX0) (T := TX0) (N := 2) (ci := 0) (kd := 2) hx hb hts iX0_sizeOf_X0 hown hK hJ k0 rfl rfl 0 (by decide) (hts (.fieldLink RX0 9 "NeighborBook$Contents" "sizes" "[I") (List.mem_of_getElem? (i := 1) rfl)) (fun _ h9 => h9) rfl dX0_sizeOf_14 (fun b7 kb7 => ?_)
      refine lv_iload_n hx hb dX0_sizeOf_17 rfl (lv_at hl 1 rfl) ?_
      refine hp_iald (kd := 13) (n := 9) hx hb hK hJ kb7 rfl (by omega) (by omega) (hk_s13 (by omega)) (hs13_n _) dX0_sizeOf_18 (fun x8 ex8 => ?_)
      have ex8 := hs13_i ex8
      refine lv_goto (tgt := 23) hx hb dX0_sizeOf_19 (by decide) ?_
      exact hp_iret hx hb hK hN hW hlocks hJ hr ⟨rfl, by omega⟩ dX0_sizeOf_23
theorem iX0_has_X0 : ∀ w ∈ wsX00, w ∈ wsX0_has := fun _ h => List.mem_cons_of_mem _ (List.mem_append_right _ h)
set_option maxRecDepth 100000 in
set_option maxHeartbeats 4000000 in
theorem c_X0_has (l : Launch) (dC : Nat → ClassId) (dI : Nat → Nat → Nat) (dA : Nat → ClassId) (κ : Nat → Nat) (B : Nat) (g : Nat → Nat → Int) (h0 : Nat) (k0 : κ h0 = 2) (type : Int32) : Met l yX0_has wsX0_has ({ frames := 1, cells := 0, slots := 0, locals := 21 } : Room) (hp_Pre dC dI dA κ B g [Value.ref h0, Value.int type]) (hp_Qi dC dI dA κ B (fun r u => g = u ∧ (r.toInt = 0 ∨ r.toInt = 1) ∧ (r.toInt = 1 → 0 ≤ type.toInt ∧ type.toInt ≤ 8))) 0 0 (hp_A B) := by
  refine Met.ofW (cc := cX0_has) (maxL := 2) (ret := (some .boolean)) (by decide) rfl ?_
  intro p e s m args below meth c s₁ Bd hml hv
  obtain ⟨rfl, hK, hN, hW, hF⟩ := hv
  have hx := Bd.exec
  have hb := Bd.bytes
  have hr := Bd.returns
  have hts := atoms_spec (ws := wsX0_has) Bd.pre
  have hown : s.vm.findClass RX0 = some m.cls := findClass_of_methodNamed Bd.named
  have hlocks := Bd.notSynchronized
  have hJ : hp_J dC dI dA κ B g s.heap s.heap [] := ⟨hF, va_S.rf⟩
  have hl := lv_entry ([Value.ref h0, Value.int type]) (n := 2) (Nat.le_of_ble_eq_true rfl)
  rw [lg_entry_eq]
  generalize (lg_sl ([Value.ref h0, Value.int type]) ++ List.replicate (2 - (lg_sl ([Value.ref h0, Value.int type])).length) Slot.unset).toArray = ls at hl ⊢
  have hl : lv_has ls 2 [(0, .ref h0), (1, .int type)] := hl
  refine lv_aload_n hx hb dX0_has_0 rfl (lv_at hl 0 rfl) ?_
  refine lv_iload_n hx hb dX0_has_1 rfl (lv_at hl 1 rfl) ?_
  refine hp_calli (va_runV (As := [.int type]) (rest := []) ⟨hx, hb, hml, hown, hts⟩ (c_X0_sizeOf l dC dI dA κ B g h0 k0 type) (cwV 1 hts gX0_has_X0_sizeOf rfl rfl rfl (by decide +kernel) ⟨Nat.le_of_ble_eq_true rfl, Nat.le_of_ble_eq_true rfl⟩) (hp_preV (q := (RX0, TX0, 2)) [.int type] hK hN hW hJ k0 rfl rfl) rfl rfl hl.1 rfl (lv_room (Nat.le_of_ble_eq_true rfl)) dX0_has_2 ⟨Nat.zero_le _, Nat.zero_le _⟩) hJ (fun x2 g1 H locs hp hJ => ?_)
  obtain ⟨rfl, f3⟩ := hp
  refine hq_iconst hx hb dX0_has_5 (by decide) (by decide) (fun z4 ez4 => ?_)
  refine hq_icmp_eq (tgt := 13) hx hb dX0_has_6 (by decide) (fun c5 => ?_) (fun c5 => ?_)
  · refine hq_iconst hx hb dX0_has_13 (by decide) (by decide) (fun z6 ez6 => ?_)
    exact hp_zret hx hb hK hN hW hlocks hJ hr (by omega) ⟨rfl, by omega⟩ dX0_has_14
  · refine hq_iconst hx hb dX0_has_9 (by decide) (by decide) (fun z7 ez7 => ?_)
    refine lv_goto (tgt := 14) hx hb dX0_has_10 (by decide) ?_
    exact hp_zret hx hb hK hN hW hlocks hJ hr (by omega) ⟨rfl, by omega⟩ dX0_has_14
theorem iX0_drop_X0 : ∀ w ∈ wsX00, w ∈ wsX0_drop := fun _ h => List.mem_cons_of_mem _ (List.mem_append_right _ h)
set_option maxRecDepth 100000 in
set_option maxHeartbeats 4000000 in
theorem c_X0_drop (l : Launch) (dC : Nat → ClassId) (dI : Nat → Nat → Nat) (dA : Nat → ClassId) (κ : Nat → Nat) (B : Nat) (g : Nat → Nat → Int) (h0 : Nat) (k0 : κ h0 = 2) (type : Int32) : Met l yX0_drop wsX0_drop ({ frames := 2, cells := 0, slots := 0, locals := 42 } : Room) (hp_Pre dC dI dA κ B g [Value.ref h0, Value.int type]) (hp_Qv dC dI dA κ B (fun u => g = u)) 0 0 (hp_A B) := by
  refine Met.ofW (cc := cX0_drop) (maxL := 2) (ret := none) (by decide) rfl ?_
  intro p e s m args below meth c s₁ Bd hml hv
  obtain ⟨rfl, hK, hN, hW, hF⟩ := hv
  have hx := Bd.exec
  have hb := Bd.bytes
  have hr := Bd.returns
  have hts := atoms_spec (ws := wsX0_drop) Bd.pre
  have hown : s.vm.findClass RX0 = some m.cls := findClass_of_methodNamed Bd.named
  have hlocks := Bd.notSynchronized
  have hJ : hp_J dC dI dA κ B g s.heap s.heap [] := ⟨hF, va_S.rf⟩
  have hl := lv_entry ([Value.ref h0, Value.int type]) (n := 2) (Nat.le_of_ble_eq_true rfl)
  rw [lg_entry_eq]
  generalize (lg_sl ([Value.ref h0, Value.int type]) ++ List.replicate (2 - (lg_sl ([Value.ref h0, Value.int type])).length) Slot.unset).toArray = ls at hl ⊢
  have hl : lv_has ls 2 [(0, .ref h0), (1, .int type)] := hl
  refine lv_aload_n hx hb dX0_drop_0 rfl (lv_at hl 0 rfl) ?_
  refine lv_iload_n hx hb dX0_drop_1 rfl (lv_at hl 1 rfl) ?_
  refine hp_calli (va_runV (As := [.int type]) (rest := []) ⟨hx, hb, hml, hown, hts⟩ (c_X0_has l dC dI dA κ B g h0 k0 type) (cwV 1 hts gX0_drop_X0_has rfl rfl rfl (by decide +kernel) ⟨Nat.le_of_ble_eq_true rfl, Nat.le_of_ble_eq_true rfl⟩) (hp_preV (q := (RX0, TX0, 2)) [.int type] hK hN hW hJ k0 rfl rfl) rfl rfl hl.1 rfl (lv_room (Nat.le_of_ble_eq_true rfl)) dX0_drop_2 ⟨Nat.zero_le _, Nat.zero_le _⟩) hJ (fun x2 g1 H locs hp hJ => ?_)
  obtain ⟨rfl, f3⟩ := hp
  refine hq_if_eq (tgt := 15) hx hb dX0_drop_5 (by decide) (fun c4 => ?_) (fun c4 => ?_)
  · exact hp_vret hx hb hK hN hW hlocks hJ hr rfl dX0_drop_15
  · refine lv_aload_n hx hb dX0_drop_8 rfl (lv_at hl 0 rfl) ?_
    refine hp_getr (C := RX0) (T := TX0) (N := 2) (ci := 0) (kd := 2) hx hb hts iX0_drop_X0 hown hK hJ k0 rfl rfl 0 (by decide) (hts (.fieldLink RX0 9 "NeighborBook$Contents" "sizes" "[I") (List.mem_of_getElem? (i := 1) rfl)) (fun _ h9 => h9) rfl dX0_drop_9 (fun b5 kb5 => ?_)
    refine lv_iload_n hx hb dX0_drop_12 rfl (lv_at hl 1 rfl) ?_
    refine hq_iconst hx hb dX0_drop_13 (by decide) (by decide) (fun z6 ez6 => ?_)
    refine hp_iast (kd := 13) (n := 9) hx hb hK hJ kb5 rfl (by omega) (by omega) (by decide) hW (hk_s13 (by omega)) (hs13_n _) (hs13_o (by omega) (by omega)) dX0_drop_14 (fun H locs hJ => ?_)
    exact hp_vret hx hb hK hN hW hlocks hJ hr rfl dX0_drop_15
theorem iX0_byteAt_X0 : ∀ w ∈ wsX00, w ∈ wsX0_byteAt := fun _ h => List.mem_cons_of_mem _ (List.mem_append_right _ h)
set_option maxRecDepth 100000 in
set_option maxHeartbeats 4000000 in
theorem c_X0_byteAt (l : Launch) (dC : Nat → ClassId) (dI : Nat → Nat → Nat) (dA : Nat → ClassId) (κ : Nat → Nat) (B : Nat) (g : Nat → Nat → Int) (h0 : Nat) (k0 : κ h0 = 2) (type : Int32) (k : Int32) : Met l yX0_byteAt wsX0_byteAt ({ frames := 1, cells := 0, slots := 0, locals := 21 } : Room) (hp_Pre dC dI dA κ B g [Value.ref h0, Value.int type, Value.int k]) (hp_Qi dC dI dA κ B (fun r u => g = u)) 0 0 (hp_A B) := by
  refine Met.ofW (cc := cX0_byteAt) (maxL := 3) (ret := (some .int)) (by decide) rfl ?_
  intro p e s m args below meth c s₁ Bd hml hv
  obtain ⟨rfl, hK, hN, hW, hF⟩ := hv
  have hx := Bd.exec
  have hb := Bd.bytes
  have hr := Bd.returns
  have hts := atoms_spec (ws := wsX0_byteAt) Bd.pre
  have hown : s.vm.findClass RX0 = some m.cls := findClass_of_methodNamed Bd.named
  have hlocks := Bd.notSynchronized
  have hJ : hp_J dC dI dA κ B g s.heap s.heap [] := ⟨hF, va_S.rf⟩
  have hl := lv_entry ([Value.ref h0, Value.int type, Value.int k]) (n := 3) (Nat.le_of_ble_eq_true rfl)
  rw [lg_entry_eq]
  generalize (lg_sl ([Value.ref h0, Value.int type, Value.int k]) ++ List.replicate (3 - (lg_sl ([Value.ref h0, Value.int type, Value.int k])).length) Slot.unset).toArray = ls at hl ⊢
  have hl : lv_has ls 3 [(0, .ref h0), (1, .int type), (2, .int k)] := hl
  refine lv_iload_n hx hb dX0_byteAt_0 rfl (lv_at hl 2 rfl) ?_
  refine hq_if_lt (tgt := 13) hx hb dX0_byteAt_1 (by decide) (fun c1 => ?_) (fun c1 => ?_)
  · refine hq_iconst hx hb dX0_byteAt_13 (by decide) (by decide) (fun z2 ez2 => ?_)
    exact hp_iret hx hb hK hN hW hlocks hJ hr rfl dX0_byteAt_14
  · refine lv_iload_n hx hb dX0_byteAt_4 rfl (lv_at hl 2 rfl) ?_
    refine lv_aload_n hx hb dX0_byteAt_5 rfl (lv_at hl 0 rfl) ?_
    refine lv_iload_n hx hb dX0_byteAt_6 rfl (lv_at hl 1 rfl) ?_
    refine hp_calli (va_runV (As := [.int type]) (rest := [.int k]) ⟨hx, hb, hml, hown, hts⟩ (c_X0_sizeOf l dC dI dA κ B g h0 k0 type) (cwV 1 hts gX0_byteAt_X0_sizeOf rfl rfl rfl (by decide +kernel) ⟨Nat.le_of_ble_eq_true rfl, Nat.le_of_ble_eq_true rfl⟩) (hp_preV (q := (RX0, TX0, 2)) [.int type] hK hN hW hJ k0 rfl rfl) rfl rfl hl.1 rfl (lv_room (Nat.le_of_ble_eq_true rfl)) dX0_byteAt_7 ⟨Nat.zero_le _, Nat.zero_le _⟩) hJ (fun x4 g3 H locs hp hJ => ?_)
    obtain ⟨rfl, f5⟩ := hp
    refine hq_icmp_lt (tgt := 15) hx hb dX0_byteAt_10 (by decide) (fun c6 => ?_) (fun c6 => ?_)
    · refine lv_aload_n hx hb dX0_byteAt_15 rfl (lv_at hl 0 rfl) ?_
      refine hp_getr (C := RX0) (T := TX0) (N := 2) (ci := 0) (kd := 2) hx hb hts iX0_byteAt_X0 hown hK hJ k0 rfl rfl 1 (by decide) (hts (.fieldLink RX0 15 "NeighborBook$Contents" "bytes" "[B") (List.mem_of_getElem? (i := 1) rfl)) (fun _ h9 => h9) rfl dX0_byteAt_16 (fun b7 kb7 => ?_)
      refine lv_iload_n hx hb dX0_byteAt_19 rfl (lv_at hl 1 rfl) ?_
      refine hp_calli (va_runS (As := [.int type]) (rest := [.ref b7]) ⟨hx, hb, hml, hown, hts⟩ (c_X0_startOf l dC dI dA κ B g type (by omega) (by omega)) (va_cwS 1 hts gX0_byteAt_X0_startOf rfl rfl rfl (by decide +kernel) ⟨Nat.le_of_ble_eq_true rfl, Nat.le_of_ble_eq_true rfl⟩) (hp_preS [.int type] hK hN hW hJ) rfl rfl hl.1 rfl (lv_room (Nat.le_of_ble_eq_true rfl)) dX0_byteAt_20 ⟨Nat.zero_le _, Nat.zero_le _⟩) hJ (fun x9 g8 H locs hp hJ => ?_)
      obtain ⟨rfl, f10⟩ := hp
      refine lv_iload_n hx hb dX0_byteAt_23 rfl (lv_at hl 2 rfl) ?_
      refine hq_iadd hx hb dX0_byteAt_24 (by omega) (by omega) (fun x11 ex11 => ?_)
      refine hp_bald (kd := 14) (n := 420) hx hb hK hJ kb7 rfl (by omega) (by omega) (sp := (5, 0)) rfl rfl dX0_byteAt_25 (fun x12 ex12 => ?_)
      have ex12 : -128 ≤ x12.toInt ∧ x12.toInt ≤ 127 := ex12
      refine hq_sipush hx hb dX0_byteAt_26 (by decide) (fun z13 ez13 => ?_)
      refine hq_iandm (k := 8) hx hb dX0_byteAt_29 ez13 (by decide) (fun x14 ex14 => ?_)
      exact hp_iret hx hb hK hN hW hlocks hJ hr rfl dX0_byteAt_30
    · refine hq_iconst hx hb dX0_byteAt_13 (by decide) (by decide) (fun z15 ez15 => ?_)
      exact hp_iret hx hb hK hN hW hlocks hJ hr rfl dX0_byteAt_14
theorem iX0_isSame_X0 : ∀ w ∈ wsX00, w ∈ wsX0_isSame := fun _ h => List.mem_cons_of_mem _ (List.mem_append_right _ h)
set_option maxRecDepth 100000 in
set_option maxHeartbeats 4000000 in
theorem c_X0_isSame (l : Launch) (dC : Nat → ClassId) (dI : Nat → Nat → Nat) (dA : Nat → ClassId) (κ : Nat → Nat) (B : Nat) (g : Nat → Nat → Int) (h0 : Nat) (k0 : κ h0 = 2) (type : Int32) {kf nf : Nat} (frm : Nat) (kfrm : κ frm = kf) (start : Int32) (size : Int32) (hkf : hk_t kf = (2, 1, nf)) (hsf : ∀ j, hk_s kf j = (5, 0)) (hnf : nf < 100000) (ht0 : 0 ≤ type.toInt) (ht8 : type.toInt ≤ 8) : Met l yX0_isSame wsX0_isSame ({ frames := 1, cells := 0, slots := 0, locals := 21 } : Room) (hp_Pre dC dI dA κ B g [Value.ref h0, Value.int type, Value.ref frm, Value.int start, Value.int size]) (hp_Qi dC dI dA κ B (fun r u => g = u ∧ (r.toInt = 0 ∨ r.toInt = 1))) 0 0 (hp_A B) := by
  refine Met.ofW (cc := cX0_isSame) (maxL := 7) (ret := (some .boolean)) (by decide) rfl ?_
  intro p e s m args below meth c s₁ Bd hml hv
  obtain ⟨rfl, hK, hN, hW, hF⟩ := hv
  have hx := Bd.exec
  have hb := Bd.bytes
  have hr := Bd.returns
  have hts := atoms_spec (ws := wsX0_isSame) Bd.pre
  have hown : s.vm.findClass RX0 = some m.cls := findClass_of_methodNamed Bd.named
  have hlocks := Bd.notSynchronized
  have hJ : hp_J dC dI dA κ B g s.heap s.heap [] := ⟨hF, va_S.rf⟩
  have hl := lv_entry ([Value.ref h0, Value.int type, Value.ref frm, Value.int start, Value.int size]) (n := 7) (Nat.le_of_ble_eq_true rfl)
  rw [lg_entry_eq]
  generalize (lg_sl ([Value.ref h0, Value.int type, Value.ref frm, Value.int start, Value.int size]) ++ List.replicate (7 - (lg_sl ([Value.ref h0, Value.int type, Value.ref frm, Value.int start, Value.int size])).length) Slot.unset).toArray = ls at hl ⊢
  have hl : lv_has ls 7 [(0, .ref h0), (1, .int type), (2, .ref frm), (3, .int start), (4, .int size)] := hl
  refine lv_aload_n hx hb dX0_isSame_0 rfl (lv_at hl 0 rfl) ?_
  refine lv_iload_n hx hb dX0_isSame_1 rfl (lv_at hl 1 rfl) ?_
  refine hp_calli (va_runV (As := [.int type]) (rest := []) ⟨hx, hb, hml, hown, hts⟩ (c_X0_sizeOf l dC dI dA κ B g h0 k0 type) (cwV 1 hts gX0_isSame_X0_sizeOf rfl rfl rfl (by decide +kernel) ⟨Nat.le_of_ble_eq_true rfl, Nat.le_of_ble_eq_true rfl⟩) (hp_preV (q := (RX0, TX0, 2)) [.int type] hK hN hW hJ k0 rfl rfl) rfl rfl hl.1 rfl (lv_room (Nat.le_of_ble_eq_true rfl)) dX0_isSame_2 ⟨Nat.zero_le _, Nat.zero_le _⟩) hJ (fun x2 g1 H locs hp hJ => ?_)
  obtain ⟨rfl, f3⟩ := hp
  refine lv_iload hx hb dX0_isSame_5 (lv_at hl 4 rfl) ?_
  refine hq_icmp_ne (tgt := 23) hx hb dX0_isSame_7 (by decide) (fun c4 => ?_) (fun c4 => ?_)
  · refine hq_iconst hx hb dX0_isSame_23 (by decide) (by decide) (fun z5 ez5 => ?_)
    exact hp_zret hx hb hK hN hW hlocks hJ hr (by omega) ⟨rfl, by omega⟩ dX0_isSame_24
  · refine lv_iload_n hx hb dX0_isSame_10 rfl (lv_at hl 3 rfl) ?_
    refine hq_if_lt (tgt := 23) hx hb dX0_isSame_11 (by decide) (fun c6 => ?_) (fun c6 => ?_)
    · refine hq_iconst hx hb dX0_isSame_23 (by decide) (by decide) (fun z7 ez7 => ?_)
      exact hp_zret hx hb hK hN hW hlocks hJ hr (by omega) ⟨rfl, by omega⟩ dX0_isSame_24
    · refine lv_iload_n hx hb dX0_isSame_14 rfl (lv_at hl 3 rfl) ?_
      refine lv_aload_n hx hb dX0_isSame_15 rfl (lv_at hl 2 rfl) ?_
      refine hp_alen (q := (dA 1, .byte)) (ty := 1) (n := nf) hx hb hK hJ kfrm hkf rfl rfl (by omega) dX0_isSame_16 (fun x8 ex8 => ?_)
      refine lv_iload hx hb dX0_isSame_17 (lv_at hl 4 rfl) ?_
      refine hq_isub hx hb dX0_isSame_19 (by omega) (by omega) (fun x9 ex9 => ?_)
      refine hq_icmp_le (tgt := 25) hx hb dX0_isSame_20 (by decide) (fun c10 => ?_) (fun c10 => ?_)
      · refine lv_iload_n hx hb dX0_isSame_25 rfl (lv_at hl 1 rfl) ?_
        refine hp_calli (va_runS (As := [.int type]) (rest := []) ⟨hx, hb, hml, hown, hts⟩ (c_X0_startOf l dC dI dA κ B g type (by omega) (by omega)) (va_cwS 1 hts gX0_isSame_X0_startOf rfl rfl rfl (by decide +kernel) ⟨Nat.le_of_ble_eq_true rfl, Nat.le_of_ble_eq_true rfl⟩) (hp_preS [.int type] hK hN hW hJ) rfl rfl hl.1 rfl (lv_room (Nat.le_of_ble_eq_true rfl)) dX0_isSame_26 ⟨Nat.zero_le _, Nat.zero_le _⟩) hJ (fun x12 g11 H locs hp hJ => ?_)
        obtain ⟨rfl, f13⟩ := hp
        refine lv_istore (lv' := [(5, .int x12), (0, .ref h0), (1, .int type), (2, .ref frm), (3, .int start), (4, .int size)]) hx hb dX0_isSame_29 hl (by decide) rfl (fun ls hl => ?_)
        refine hq_iconst hx hb dX0_isSame_31 (by decide) (by decide) (fun z14 ez14 => ?_)
        refine lv_istore (lv' := [(6, .int z14), (5, .int x12), (0, .ref h0), (1, .int type), (2, .ref frm), (3, .int start), (4, .int size)]) hx hb dX0_isSame_32 hl (by decide) rfl (fun ls hl => ?_)
        have lp16 : ∀ (nlp16 : Nat) (v15 : Int32) (H : Heap) (locs : List Loc) (ls : Array Slot), (0 ≤ v15.toInt) → (v15.toInt ≤ 60) → (61 - v15.toInt < (nlp16 : Int)) → hp_J dC dI dA κ B g s.heap H locs → lv_has ls 7 [(0, .ref h0), (1, .int type), (2, .ref frm), (3, .int start), (4, .int size), (5, .int x12), (6, .int v15)] → W p l e (headSpec wsX0_isSame ({ frames := 1, cells := 0, slots := 0, locals := 21 } : Room)).room s m ([Value.ref h0, Value.int type, Value.ref frm, Value.int start, Value.int size] : List Value).toArray below meth c H locs 0 0 (MQ below (hp_Qi dC dI dA κ B (fun r u => g = u ∧ (r.toInt = 0 ∨ r.toInt = 1))) ([Value.ref h0, Value.int type, Value.ref frm, Value.int start, Value.int size] : List Value).toArray s 0 0 (hp_A B)) (F0 m 34 ls []) := by
          intro nlp16
          induction nlp16 with
          | zero => intro v15 H locs ls iv18 iv19 hm17 hJ hl; exact absurd hm17 (by omega)
          | succ nlp16 ihlp16 =>
            intro v15 H locs ls iv18 iv19 hm17 hJ hl
            refine lv_iload hx hb dX0_isSame_34 (lv_at hl 6 rfl) ?_
            refine lv_iload hx hb dX0_isSame_36 (lv_at hl 4 rfl) ?_
            refine hq_icmp_ge (tgt := 68) hx hb dX0_isSame_38 (by decide) (fun c20 => ?_) (fun c20 => ?_)
            · refine hq_iconst hx hb dX0_isSame_68 (by decide) (by decide) (fun z21 ez21 => ?_)
              exact hp_zret hx hb hK hN hW hlocks hJ hr (by omega) ⟨rfl, by omega⟩ dX0_isSame_69
            · refine lv_aload_n hx hb dX0_isSame_41 rfl (lv_at hl 0 rfl) ?_
              refine hp_getr (C := RX0) (T := TX0) (N := 2) (ci := 0) (kd := 2) hx hb hts iX0_isSame_X0 hown hK hJ k0 rfl rfl 1 (by decide) (hts (.fieldLink RX0 15 "NeighborBook$Contents" "bytes" "[B") (List.mem_of_getElem? (i := 1) rfl)) (fun _ h9 => h9) rfl dX0_isSame_42 (fun b22 kb22 => ?_)
              refine lv_iload hx hb dX0_isSame_45 (lv_at hl 5 rfl) ?_
              refine lv_iload hx hb dX0_isSame_47 (lv_at hl 6 rfl) ?_
              refine hq_iadd hx hb dX0_isSame_49 (by omega) (by omega) (fun x23 ex23 => ?_)
              refine hp_bald (kd := 14) (n := 420) hx hb hK hJ kb22 rfl (by omega) (by omega) (sp := (5, 0)) rfl rfl dX0_isSame_50 (fun x24 ex24 => ?_)
              have ex24 : -128 ≤ x24.toInt ∧ x24.toInt ≤ 127 := ex24
              refine lv_aload_n hx hb dX0_isSame_51 rfl (lv_at hl 2 rfl) ?_
              refine lv_iload_n hx hb dX0_isSame_52 rfl (lv_at hl 3 rfl) ?_
              refine lv_iload hx hb dX0_isSame_53 (lv_at hl 6 rfl) ?_
              refine hq_iadd hx hb dX0_isSame_55 (by omega) (by omega) (fun x25 ex25 => ?_)
              refine hp_bald (kd := kf) (n := nf) hx hb hK hJ kfrm hkf (by omega) (by omega) (sp := (5, 0)) (hsf _) rfl dX0_isSame_56 (fun x26 ex26 => ?_)
              refine hq_icmp_eq (tgt := 62) hx hb dX0_isSame_57 (by decide) (fun c27 => ?_) (fun c27 => ?_)
              · refine hq_iinc (k := 6) (lv' := fun (z9 : Int32) => [(6, .int z9), (0, .ref h0), (1, .int type), (2, .ref frm), (3, .int start), (4, .int size), (5, .int x12)]) hx hb dX0_isSame_62 hl rfl (by decide) (by decide) (by omega) (by omega) (by decide) (fun _ => rfl) (fun x28 ls ex28 hl => ?_)
                have hl : lv_has ls 7 [(6, .int x28), (0, .ref h0), (1, .int type), (2, .ref frm), (3, .int start), (4, .int size), (5, .int x12)] := hl
                refine lv_goto (tgt := 34) hx hb dX0_isSame_65 (by decide) ?_
                exact ihlp16 x28 _ _ ls (by omega) (by omega) (by omega) hJ (lv_sub hl [1, 2, 3, 4, 5, 6, 0] rfl)
              · refine hq_iconst hx hb dX0_isSame_60 (by decide) (by decide) (fun z29 ez29 => ?_)
                exact hp_zret hx hb hK hN hW hlocks hJ hr (by omega) ⟨rfl, by omega⟩ dX0_isSame_61
        exact lp16 ((61 - z14.toInt).toNat + 1) z14 _ _ ls (by omega) (by omega) (by omega) hJ (lv_sub hl [2, 3, 4, 5, 6, 1, 0] rfl)
      · refine hq_iconst hx hb dX0_isSame_23 (by decide) (by decide) (fun z30 ez30 => ?_)
        exact hp_zret hx hb hK hN hW hlocks hJ hr (by omega) ⟨rfl, by omega⟩ dX0_isSame_24
theorem iX0_isSameStation_X0 : ∀ w ∈ wsX00, w ∈ wsX0_isSameStation := fun _ h => List.mem_cons_of_mem _ (List.mem_append_right _ h)
set_option maxRecDepth 100000 in
set_option maxHeartbeats 4000000 in
theorem c_X0_isSameStation (l : Launch) (dC : Nat → ClassId) (dI : Nat → Nat → Nat) (dA : Nat → ClassId) (κ : Nat → Nat) (B : Nat) (g : Nat → Nat → Int) (h0 : Nat) (k0 : κ h0 = 2) (other : Nat) (kother : κ other = 2) : Met l yX0_isSameStation wsX0_isSameStation ({ frames := 2, cells := 0, slots := 0, locals := 47 } : Room) (hp_Pre dC dI dA κ B g [Value.ref h0, Value.ref other]) (hp_Qi dC dI dA κ B (fun r u => g = u ∧ (r.toInt = 0 ∨ r.toInt = 1))) 0 0 (hp_A B) := by
  refine Met.ofW (cc := cX0_isSameStation) (maxL := 2) (ret := (some .boolean)) (by decide) rfl ?_
  intro p e s m args below meth c s₁ Bd hml hv
  obtain ⟨rfl, hK, hN, hW, hF⟩ := hv
  have hx := Bd.exec
  have hb := Bd.bytes
  have hr := Bd.returns
  have hts := atoms_spec (ws := wsX0_isSameStation) Bd.pre
  have hown : s.vm.findClass RX0 = some m.cls := findClass_of_methodNamed Bd.named
  have hlocks := Bd.notSynchronized
  have hJ : hp_J dC dI dA κ B g s.heap s.heap [] := ⟨hF, va_S.rf⟩
  have hl := lv_entry ([Value.ref h0, Value.ref other]) (n := 2) (Nat.le_of_ble_eq_true rfl)
  rw [lg_entry_eq]
  generalize (lg_sl ([Value.ref h0, Value.ref other]) ++ List.replicate (2 - (lg_sl ([Value.ref h0, Value.ref other])).length) Slot.unset).toArray = ls at hl ⊢
  have hl : lv_has ls 2 [(0, .ref h0), (1, .ref other)] := hl
  refine lv_aload_n hx hb dX0_isSameStation_0 rfl (lv_at hl 0 rfl) ?_
  refine hq_iconst hx hb dX0_isSameStation_1 (by decide) (by decide) (fun z1 ez1 => ?_)
  refine lv_aload_n hx hb dX0_isSameStation_2 rfl (lv_at hl 1 rfl) ?_
  refine hp_getr (C := RX0) (T := TX0) (N := 2) (ci := 0) (kd := 2) hx hb hts iX0_isSameStation_X0 hown hK hJ kother rfl rfl 1 (by decide) (hts (.fieldLink RX0 15 "NeighborBook$Contents" "bytes" "[B") (List.mem_of_getElem? (i := 1) rfl)) (fun _ h9 => h9) rfl dX0_isSameStation_3 (fun b2 kb2 => ?_)
  refine hq_iconst hx hb dX0_isSameStation_6 (by decide) (by decide) (fun z3 ez3 => ?_)
  refine hp_calli (va_runS (As := [.int z3]) (rest := [.ref b2, .int z1, .ref h0]) ⟨hx, hb, hml, hown, hts⟩ (c_X0_startOf l dC dI dA κ B g z3 (by omega) (by omega)) (va_cwS 1 hts gX0_isSameStation_X0_startOf rfl rfl rfl (by decide +kernel) ⟨Nat.le_of_ble_eq_true rfl, Nat.le_of_ble_eq_true rfl⟩) (hp_preS [.int z3] hK hN hW hJ) rfl rfl hl.1 rfl (lv_room (Nat.le_of_ble_eq_true rfl)) dX0_isSameStation_7 ⟨Nat.zero_le _, Nat.zero_le _⟩) hJ (fun x5 g4 H locs hp hJ => ?_)
  obtain ⟨rfl, f6⟩ := hp
  refine lv_aload_n hx hb dX0_isSameStation_10 rfl (lv_at hl 1 rfl) ?_
  refine hq_iconst hx hb dX0_isSameStation_11 (by decide) (by decide) (fun z7 ez7 => ?_)
  refine hp_calli (va_runV (As := [.int z7]) (rest := [.int x5, .ref b2, .int z1, .ref h0]) ⟨hx, hb, hml, hown, hts⟩ (c_X0_sizeOf l dC dI dA κ B g other kother z7) (cwV 1 hts gX0_isSameStation_X0_sizeOf rfl rfl rfl (by decide +kernel) ⟨Nat.le_of_ble_eq_true rfl, Nat.le_of_ble_eq_true rfl⟩) (hp_preV (q := (RX0, TX0, 2)) [.int z7] hK hN hW hJ kother rfl rfl) rfl rfl hl.1 rfl (lv_room (Nat.le_of_ble_eq_true rfl)) dX0_isSameStation_12 ⟨Nat.zero_le _, Nat.zero_le _⟩) hJ (fun x9 g8 H locs hp hJ => ?_)
  obtain ⟨rfl, f10⟩ := hp
  refine hp_calli (va_runV (As := [.int z1, .ref b2, .int x5, .int x9]) (rest := []) ⟨hx, hb, hml, hown, hts⟩ (c_X0_isSame l dC dI dA κ B g h0 k0 z1 b2 kb2 x5 x9 (kf := 14) rfl (fun _ => rfl) (by decide) (by omega) (by omega)) (cwV 4 hts gX0_isSameStation_X0_isSame rfl rfl rfl (by decide +kernel) ⟨Nat.le_of_ble_eq_true rfl, Nat.le_of_ble_eq_true rfl⟩) (hp_preV (q := (RX0, TX0, 2)) [.int z1, .ref b2, .int x5, .int x9] hK hN hW hJ k0 rfl rfl) rfl rfl hl.1 rfl (lv_room (Nat.le_of_ble_eq_true rfl)) dX0_isSameStation_15 ⟨Nat.zero_le _, Nat.zero_le _⟩) hJ (fun x12 g11 H locs hp hJ => ?_)
  obtain ⟨rfl, f13⟩ := hp
  refine hq_if_eq (tgt := 46) hx hb dX0_isSameStation_18 (by decide) (fun c14 => ?_) (fun c14 => ?_)
  · refine hq_iconst hx hb dX0_isSameStation_46 (by decide) (by decide) (fun z15 ez15 => ?_)
    exact hp_zret hx hb hK hN hW hlocks hJ hr (by omega) ⟨rfl, by omega⟩ dX0_isSameStation_47
  · refine lv_aload_n hx hb dX0_isSameStation_21 rfl (lv_at hl 0 rfl) ?_
    refine hq_iconst hx hb dX0_isSameStation_22 (by decide) (by decide) (fun z16 ez16 => ?_)
    refine lv_aload_n hx hb dX0_isSameStation_23 rfl (lv_at hl 1 rfl) ?_
    refine hp_getr (C := RX0) (T := TX0) (N := 2) (ci := 0) (kd := 2) hx hb hts iX0_isSameStation_X0 hown hK hJ kother rfl rfl 1 (by decide) (hts (.fieldLink RX0 15 "NeighborBook$Contents" "bytes" "[B") (List.mem_of_getElem? (i := 1) rfl)) (fun _ h9 => h9) rfl dX0_isSameStation_24 (fun b17 kb17 => ?_)
    refine hq_iconst hx hb dX0_isSameStation_27 (by decide) (by decide) (fun z18 ez18 => ?_)
    refine hp_calli (va_runS (As := [.int z18]) (rest := [.ref b17, .int z16, .ref h0]) ⟨hx, hb, hml, hown, hts⟩ (c_X0_startOf l dC dI dA κ B g z18 (by omega) (by omega)) (va_cwS 1 hts gX0_isSameStation_X0_startOf rfl rfl rfl (by decide +kernel) ⟨Nat.le_of_ble_eq_true rfl, Nat.le_of_ble_eq_true rfl⟩) (hp_preS [.int z18] hK hN hW hJ) rfl rfl hl.1 rfl (lv_room (Nat.le_of_ble_eq_true rfl)) dX0_isSameStation_28 ⟨Nat.zero_le _, Nat.zero_le _⟩) hJ (fun x20 g19 H locs hp hJ => ?_)
    obtain ⟨rfl, f21⟩ := hp
    refine lv_aload_n hx hb dX0_isSameStation_31 rfl (lv_at hl 1 rfl) ?_
    refine hq_iconst hx hb dX0_isSameStation_32 (by decide) (by decide) (fun z22 ez22 => ?_)
    refine hp_calli (va_runV (As := [.int z22]) (rest := [.int x20, .ref b17, .int z16, .ref h0]) ⟨hx, hb, hml, hown, hts⟩ (c_X0_sizeOf l dC dI dA κ B g other kother z22) (cwV 1 hts gX0_isSameStation_X0_sizeOf rfl rfl rfl (by decide +kernel) ⟨Nat.le_of_ble_eq_true rfl, Nat.le_of_ble_eq_true rfl⟩) (hp_preV (q := (RX0, TX0, 2)) [.int z22] hK hN hW hJ kother rfl rfl) rfl rfl hl.1 rfl (lv_room (Nat.le_of_ble_eq_true rfl)) dX0_isSameStation_33 ⟨Nat.zero_le _, Nat.zero_le _⟩) hJ (fun x24 g23 H locs hp hJ => ?_)
    obtain ⟨rfl, f25⟩ := hp
    refine hp_calli (va_runV (As := [.int z16, .ref b17, .int x20, .int x24]) (rest := []) ⟨hx, hb, hml, hown, hts⟩ (c_X0_isSame l dC dI dA κ B g h0 k0 z16 b17 kb17 x20 x24 (kf := 14) rfl (fun _ => rfl) (by decide) (by omega) (by omega)) (cwV 4 hts gX0_isSameStation_X0_isSame rfl rfl rfl (by decide +kernel) ⟨Nat.le_of_ble_eq_true rfl, Nat.le_of_ble_eq_true rfl⟩) (hp_preV (q := (RX0, TX0, 2)) [.int z16, .ref b17, .int x20, .int x24] hK hN hW hJ k0 rfl rfl) rfl rfl hl.1 rfl (lv_room (Nat.le_of_ble_eq_true rfl)) dX0_isSameStation_36 ⟨Nat.zero_le _, Nat.zero_le _⟩) hJ (fun x27 g26 H locs hp hJ => ?_)
    obtain ⟨rfl, f28⟩ := hp
    refine hq_if_eq (tgt := 46) hx hb dX0_isSameStation_39 (by decide) (fun c29 => ?_) (fun c29 => ?_)
    · refine hq_iconst hx hb dX0_isSameStation_46 (by decide) (by decide) (fun z30 ez30 => ?_)
      exact hp_zret hx hb hK hN hW hlocks hJ hr (by omega) ⟨rfl, by omega⟩ dX0_isSameStation_47
    · refine hq_iconst hx hb dX0_isSameStation_42 (by decide) (by decide) (fun z31 ez31 => ?_)
      refine lv_goto (tgt := 47) hx hb dX0_isSameStation_43 (by decide) ?_
      exact hp_zret hx hb hK hN hW hlocks hJ hr (by omega) ⟨rfl, by omega⟩ dX0_isSameStation_47
theorem iX0_typeBits_X0 : ∀ w ∈ wsX00, w ∈ wsX0_typeBits := fun _ h => List.mem_cons_of_mem _ (List.mem_append_right _ h)
set_option maxRecDepth 100000 in
set_option maxHeartbeats 4000000 in
theorem c_X0_typeBits (l : Launch) (dC : Nat → ClassId) (dI : Nat → Nat → Nat) (dA : Nat → ClassId) (κ : Nat → Nat) (B : Nat) (g : Nat → Nat → Int) (h0 : Nat) (k0 : κ h0 = 2) : Met l yX0_typeBits wsX0_typeBits ({ frames := 2, cells := 0, slots := 0, locals := 42 } : Room) (hp_Pre dC dI dA κ B g [Value.ref h0]) (hp_Qi dC dI dA κ B (fun r u => g = u)) 0 0 (hp_A B) := by
  refine Met.ofW (cc := cX0_typeBits) (maxL := 3) (ret := (some .int)) (by decide) rfl ?_
  intro p e s m args below meth c s₁ Bd hml hv
  obtain ⟨rfl, hK, hN, hW, hF⟩ := hv
  have hx := Bd.exec
  have hb := Bd.bytes
  have hr := Bd.returns
  have hts := atoms_spec (ws := wsX0_typeBits) Bd.pre
  have hown : s.vm.findClass RX0 = some m.cls := findClass_of_methodNamed Bd.named
  have hlocks := Bd.notSynchronized
  have hJ : hp_J dC dI dA κ B g s.heap s.heap [] := ⟨hF, va_S.rf⟩
  have hl := lv_entry ([Value.ref h0]) (n := 3) (Nat.le_of_ble_eq_true rfl)
  rw [lg_entry_eq]
  generalize (lg_sl ([Value.ref h0]) ++ List.replicate (3 - (lg_sl ([Value.ref h0])).length) Slot.unset).toArray = ls at hl ⊢
  have hl : lv_has ls 3 [(0, .ref h0)] := hl
  refine hq_iconst hx hb dX0_typeBits_0 (by decide) (by decide) (fun z1 ez1 => ?_)
  refine lv_istore_n (lv' := [(1, .int z1), (0, .ref h0)]) hx hb dX0_typeBits_1 rfl hl (by decide) rfl (fun ls hl => ?_)
  refine hq_iconst hx hb dX0_typeBits_2 (by decide) (by decide) (fun z2 ez2 => ?_)
  refine lv_istore_n (lv' := [(2, .int z2), (1, .int z1), (0, .ref h0)]) hx hb dX0_typeBits_3 rfl hl (by decide) rfl (fun ls hl => ?_)
  have lp5 : ∀ (nlp5 : Nat) (v3 : Int32) (v4 : Int32) (H : Heap) (locs : List Loc) (ls : Array Slot), (1 ≤ v4.toInt) → (v4.toInt ≤ 9) → (10 - v4.toInt < (nlp5 : Int)) → hp_J dC dI dA κ B g s.heap H locs → lv_has ls 3 [(0, .ref h0), (1, .int v3), (2, .int v4)] → W p l e (headSpec wsX0_typeBits ({ frames := 2, cells := 0, slots := 0, locals := 42 } : Room)).room s m ([Value.ref h0] : List Value).toArray below meth c H locs 0 0 (MQ below (hp_Qi dC dI dA κ B (fun r u => g = u)) ([Value.ref h0] : List Value).toArray s 0 0 (hp_A B)) (F0 m 4 ls []) := by
    intro nlp5
    induction nlp5 with
    | zero => intro v3 v4 H locs ls iv7 iv8 hm6 hJ hl; exact absurd hm6 (by omega)
    | succ nlp5 ihlp5 =>
      intro v3 v4 H locs ls iv7 iv8 hm6 hJ hl
      refine lv_iload_n hx hb dX0_typeBits_4 rfl (lv_at hl 2 rfl) ?_
      refine hq_bipush hx hb dX0_typeBits_5 (by decide) (fun z9 ez9 => ?_)
      refine hq_icmp_gt (tgt := 30) hx hb dX0_typeBits_7 (by decide) (fun c10 => ?_) (fun c10 => ?_)
      · refine lv_iload_n hx hb dX0_typeBits_30 rfl (lv_at hl 1 rfl) ?_
        exact hp_iret hx hb hK hN hW hlocks hJ hr rfl dX0_typeBits_31
      · refine lv_aload_n hx hb dX0_typeBits_10 rfl (lv_at hl 0 rfl) ?_
        refine lv_iload_n hx hb dX0_typeBits_11 rfl (lv_at hl 2 rfl) ?_
        refine hp_calli (va_runV (As := [.int v4]) (rest := []) ⟨hx, hb, hml, hown, hts⟩ (c_X0_has l dC dI dA κ B g h0 k0 v4) (cwV 1 hts gX0_typeBits_X0_has rfl rfl rfl (by decide +kernel) ⟨Nat.le_of_ble_eq_true rfl, Nat.le_of_ble_eq_true rfl⟩) (hp_preV (q := (RX0, TX0, 2)) [.int v4] hK hN hW hJ k0 rfl rfl) rfl rfl hl.1 rfl (lv_room (Nat.le_of_ble_eq_true rfl)) dX0_typeBits_12 ⟨Nat.zero_le _, Nat.zero_le _⟩) hJ (fun x12 g11 H locs hp hJ => ?_)
        obtain ⟨rfl, f13⟩ := hp
        refine hq_if_eq (tgt := 24) hx hb dX0_typeBits_15 (by decide) (fun c14 => ?_) (fun c14 => ?_)
        · refine hq_iinc (k := 2) (lv' := fun (z9 : Int32) => [(2, .int z9), (0, .ref h0), (1, .int v3)]) hx hb dX0_typeBits_24 hl rfl (by decide) (by decide) (by omega) (by omega) (by decide) (fun _ => rfl) (fun x15 ls ex15 hl => ?_)
          have hl : lv_has ls 3 [(2, .int x15), (0, .ref h0), (1, .int v3)] := hl
          refine lv_goto (tgt := 4) hx hb dX0_typeBits_27 (by decide) ?_
          exact ihlp5 v3 x15 _ _ ls (by omega) (by omega) (by omega) hJ (lv_sub hl [1, 2, 0] rfl)
        · refine lv_iload_n hx hb dX0_typeBits_18 rfl (lv_at hl 1 rfl) ?_
          refine hq_iconst hx hb dX0_typeBits_19 (by decide) (by decide) (fun z16 ez16 => ?_)
          refine lv_iload_n hx hb dX0_typeBits_20 rfl (lv_at hl 2 rfl) ?_
          refine hq_ishlU hx hb dX0_typeBits_21 (fun x17 => ?_)
          refine hq_iorU hx hb dX0_typeBits_22 (fun x18 => ?_)
          refine lv_istore_n (lv' := [(1, .int x18), (0, .ref h0), (2, .int v4)]) hx hb dX0_typeBits_23 rfl hl (by decide) rfl (fun ls hl => ?_)
          refine hq_iinc (k := 2) (lv' := fun (z9 : Int32) => [(2, .int z9), (1, .int x18), (0, .ref h0)]) hx hb dX0_typeBits_24 hl rfl (by decide) (by decide) (by omega) (by omega) (by decide) (fun _ => rfl) (fun x19 ls ex19 hl => ?_)
          have hl : lv_has ls 3 [(2, .int x19), (1, .int x18), (0, .ref h0)] := hl
          refine lv_goto (tgt := 4) hx hb dX0_typeBits_27 (by decide) ?_
          exact ihlp5 x18 x19 _ _ ls (by omega) (by omega) (by omega) hJ (lv_sub hl [2, 1, 0] rfl)
  exact lp5 ((10 - z2.toInt).toNat + 1) z1 z2 _ _ ls (by omega) (by omega) (by omega) hJ (lv_sub hl [2, 1, 0] rfl)
theorem iX0_keep_X0 : ∀ w ∈ wsX00, w ∈ wsX0_keep := fun _ h => List.mem_cons_of_mem _ (List.mem_append_right _ h)
set_option maxRecDepth 100000 in
set_option maxHeartbeats 4000000 in
theorem c_X0_keep (l : Launch) (dC : Nat → ClassId) (dI : Nat → Nat → Nat) (dA : Nat → ClassId) (κ : Nat → Nat) (B : Nat) (g : Nat → Nat → Int) (h0 : Nat) (k0 : κ h0 = 2) (type : Int32) (frm : Nat) (kfrm : κ frm = 12) (start : Int32) (size : Int32) : Met l yX0_keep wsX0_keep ({ frames := 2, cells := 0, slots := 0, locals := 40 } : Room) (hp_Pre dC dI dA κ B g [Value.ref h0, Value.int type, Value.ref frm, Value.int start, Value.int size]) (hp_Qv dC dI dA κ B (fun u => g = u)) 0 0 (hp_A B) := by
  refine Met.ofW (cc := cX0_keep) (maxL := 5) (ret := none) (by decide) rfl ?_
  intro p e s m args below meth c s₁ Bd hml hv
  obtain ⟨rfl, hK, hN, hW, hF⟩ := hv
  have hx := Bd.exec
  have hb := Bd.bytes
  have hr := Bd.returns
  have hts := atoms_spec (ws := wsX0_keep) Bd.pre
  have hown : s.vm.findClass RX0 = some m.cls := findClass_of_methodNamed Bd.named
  have hlocks := Bd.notSynchronized
  have hJ : hp_J dC dI dA κ B g s.heap s.heap [] := ⟨hF, va_S.rf⟩
  have hl := lv_entry ([Value.ref h0, Value.int type, Value.ref frm, Value.int start, Value.int size]) (n := 5) (Nat.le_of_ble_eq_true rfl)
  rw [lg_entry_eq]
  generalize (lg_sl ([Value.ref h0, Value.int type, Value.ref frm, Value.int start, Value.int size]) ++ List.replicate (5 - (lg_sl ([Value.ref h0, Value.int type, Value.ref frm, Value.int start, Value.int size])).length) Slot.unset).toArray = ls at hl ⊢
  have hl : lv_has ls 5 [(0, .ref h0), (1, .int type), (2, .ref frm), (3, .int start), (4, .int size)] := hl
  refine lv_iload_n hx hb dX0_keep_0 rfl (lv_at hl 1 rfl) ?_
  refine hp_calli (va_runS (As := [.int type]) (rest := []) ⟨hx, hb, hml, hown, hts⟩ (c_X0_isKept l dC dI dA κ B g type) (va_cwS 1 hts gX0_keep_X0_isKept rfl rfl rfl (by decide +kernel) ⟨Nat.le_of_ble_eq_true rfl, Nat.le_of_ble_eq_true rfl⟩) (hp_preS [.int type] hK hN hW hJ) rfl rfl hl.1 rfl (lv_room (Nat.le_of_ble_eq_true rfl)) dX0_keep_1 ⟨Nat.zero_le _, Nat.zero_le _⟩) hJ (fun x2 g1 H locs hp hJ => ?_)
  obtain ⟨rfl, f3⟩ := hp
  refine hq_if_eq (tgt := 55) hx hb dX0_keep_4 (by decide) (fun c4 => ?_) (fun c4 => ?_)
  · exact hp_vret hx hb hK hN hW hlocks hJ hr rfl dX0_keep_55
  · refine lv_iload hx hb dX0_keep_7 (lv_at hl 4 rfl) ?_
    refine hq_if_lt (tgt := 55) hx hb dX0_keep_9 (by decide) (fun c5 => ?_) (fun c5 => ?_)
    · exact hp_vret hx hb hK hN hW hlocks hJ hr rfl dX0_keep_55
    · refine lv_iload hx hb dX0_keep_12 (lv_at hl 4 rfl) ?_
      refine hq_bipush hx hb dX0_keep_14 (by decide) (fun z6 ez6 => ?_)
      refine hq_icmp_gt (tgt := 55) hx hb dX0_keep_16 (by decide) (fun c7 => ?_) (fun c7 => ?_)
      · exact hp_vret hx hb hK hN hW hlocks hJ hr rfl dX0_keep_55
      · refine lv_iload_n hx hb dX0_keep_19 rfl (lv_at hl 3 rfl) ?_
        refine hq_if_lt (tgt := 55) hx hb dX0_keep_20 (by decide) (fun c8 => ?_) (fun c8 => ?_)
        · exact hp_vret hx hb hK hN hW hlocks hJ hr rfl dX0_keep_55
        · refine lv_iload_n hx hb dX0_keep_23 rfl (lv_at hl 3 rfl) ?_
          refine lv_aload_n hx hb dX0_keep_24 rfl (lv_at hl 2 rfl) ?_
          refine hp_alen (q := (dA 1, .byte)) (ty := 1) (n := 700) hx hb hK hJ kfrm rfl rfl rfl (by decide) dX0_keep_25 (fun x9 ex9 => ?_)
          have ex9 : x9.toInt = 700 := ex9
          refine lv_iload hx hb dX0_keep_26 (lv_at hl 4 rfl) ?_
          refine hq_isub hx hb dX0_keep_28 (by omega) (by omega) (fun x10 ex10 => ?_)
          refine hq_icmp_gt (tgt := 55) hx hb dX0_keep_29 (by decide) (fun c11 => ?_) (fun c11 => ?_)
          · exact hp_vret hx hb hK hN hW hlocks hJ hr rfl dX0_keep_55
          · refine lv_aload_n hx hb dX0_keep_32 rfl (lv_at hl 2 rfl) ?_
            refine lv_iload_n hx hb dX0_keep_33 rfl (lv_at hl 3 rfl) ?_
            refine lv_aload_n hx hb dX0_keep_34 rfl (lv_at hl 0 rfl) ?_
            refine hp_getr (C := RX0) (T := TX0) (N := 2) (ci := 0) (kd := 2) hx hb hts iX0_keep_X0 hown hK hJ k0 rfl rfl 1 (by decide) (hts (.fieldLink RX0 15 "NeighborBook$Contents" "bytes" "[B") (List.mem_of_getElem? (i := 1) rfl)) (fun _ h9 => h9) rfl dX0_keep_35 (fun b12 kb12 => ?_)
            refine lv_iload_n hx hb dX0_keep_38 rfl (lv_at hl 1 rfl) ?_
            refine hp_calli (va_runS (As := [.int type]) (rest := [.ref b12, .int start, .ref frm]) ⟨hx, hb, hml, hown, hts⟩ (c_X0_startOf l dC dI dA κ B g type (by omega) (by omega)) (va_cwS 1 hts gX0_keep_X0_startOf rfl rfl rfl (by decide +kernel) ⟨Nat.le_of_ble_eq_true rfl, Nat.le_of_ble_eq_true rfl⟩) (hp_preS [.int type] hK hN hW hJ) rfl rfl hl.1 rfl (lv_room (Nat.le_of_ble_eq_true rfl)) dX0_keep_39 ⟨Nat.zero_le _, Nat.zero_le _⟩) hJ (fun x14 g13 H locs hp hJ => ?_)
            obtain ⟨rfl, f15⟩ := hp
            refine lv_iload hx hb dX0_keep_42 (lv_at hl 4 rfl) ?_
            obtain ⟨cs, hc1, hc2, hc3, hc4, hc5⟩ := hp_bcell hK hJ kfrm rfl (fun _ => rfl)
            refine hp_copyb hx hb (hml.trans hl.1.symm) hown (hts (.methodLink RX0 39 arraycopyName) (List.mem_of_getElem? (i := 2) rfl)) (hts (.native arraycopyName) (List.mem_of_getElem? (i := 3) rfl)) (hts (.static arraycopyName) (List.mem_of_getElem? (i := 4) rfl)) (hts (.initialized "java/lang/System") (List.mem_of_getElem? (i := 5) rfl)) hK hW hJ hc1 hc2 hc3 kb12 (by omega) (by omega) (by omega) (by rw [hc4]; omega) (by omega) hc5 (Nat.le_of_ble_eq_true rfl) (Nat.le_of_ble_eq_true rfl) dX0_keep_44 (fun H locs hJ => ?_)
            refine lv_aload_n hx hb dX0_keep_47 rfl (lv_at hl 0 rfl) ?_
            refine hp_getr (C := RX0) (T := TX0) (N := 2) (ci := 0) (kd := 2) hx hb hts iX0_keep_X0 hown hK hJ k0 rfl rfl 0 (by decide) (hts (.fieldLink RX0 9 "NeighborBook$Contents" "sizes" "[I") (List.mem_of_getElem? (i := 6) rfl)) (fun _ h9 => h9) rfl dX0_keep_48 (fun b16 kb16 => ?_)
            refine lv_iload_n hx hb dX0_keep_51 rfl (lv_at hl 1 rfl) ?_
            refine lv_iload hx hb dX0_keep_52 (lv_at hl 4 rfl) ?_
            refine hp_iast (kd := 13) (n := 9) hx hb hK hJ kb16 rfl (by omega) (by omega) (by decide) hW (hk_s13 (by omega)) (hs13_n _) (hs13_o (by omega) (by omega)) dX0_keep_54 (fun H locs hJ => ?_)
            exact hp_vret hx hb hK hN hW hlocks hJ hr rfl dX0_keep_55
end
section
theorem iX1_contents_X1 : ∀ w ∈ wsX10, w ∈ wsX1_contents := fun _ h => List.mem_cons_of_mem _ (List.mem_append_right _ h)
set_option maxRecDepth 100000 in
set_option maxHeartbeats 4000000 in
theorem c_X1_contents (l : Launch) (dC : Nat → ClassId) (dI : Nat → Nat → Nat) (dA : Nat → ClassId) (κ : Nat → Nat) (B : Nat) (g : Nat → Nat → Int) (h0 : Nat) (k0 : κ h0 = 3) : Met l yX1_contents wsX1_contents ({ frames := 0, cells := 0, slots := 0, locals := 0 } : Room) (hp_Pre dC dI dA κ B g [Value.ref h0]) (hp_Qr dC dI dA κ B 2 (fun u => g = u)) 0 0 (hp_A B) := by
  refine Met.ofW (cc := cX1_contents) (maxL := 1) (ret := (some (.object "NeighborBook$Contents"))) (by decide) rfl ?_
  intro p e s m args below meth c s₁ Bd hml hv
  obtain ⟨rfl, hK, hN, hW, hF⟩ := hv
  have hx := Bd.exec
  have hb := Bd.bytes
  have hr := Bd.returns
  have hts := atoms_spec (ws := wsX1_contents) Bd.pre
  have hown : s.vm.findClass RX1 = some m.cls := findClass_of_methodNamed Bd.named
  have hlocks := Bd.notSynchronized
  have hJ : hp_J dC dI dA κ B g s.heap s.heap [] := ⟨hF, va_S.rf⟩
  have hl := lv_entry ([Value.ref h0]) (n := 1) (Nat.le_of_ble_eq_true rfl)
  rw [lg_entry_eq]
  generalize (lg_sl ([Value.ref h0]) ++ List.replicate (1 - (lg_sl ([Value.ref h0])).length) Slot.unset).toArray = ls at hl ⊢
  have hl : lv_has ls 1 [(0, .ref h0)] := hl
  refine lv_aload_n hx hb dX1_contents_0 rfl (lv_at hl 0 rfl) ?_
  refine hp_getr (C := RX1) (T := TX1) (N := 2) (ci := 1) (kd := 3) hx hb hts iX1_contents_X1 hown hK hJ k0 rfl rfl 0 (by decide) (hts (.fieldLink RX1 12 "NeighborBook$FrameReader" "contents" "LNeighborBook$Contents;") (List.mem_of_getElem? (i := 1) rfl)) (fun _ h9 => h9) rfl dX1_contents_1 (fun b1 kb1 => ?_)
  exact hp_aret hx hb hK hN hW hlocks hJ hr kb1 rfl dX1_contents_4
theorem iX1_held_X1 : ∀ w ∈ wsX10, w ∈ wsX1_held := fun _ h => List.mem_cons_of_mem _ (List.mem_append_right _ h)
set_option maxRecDepth 100000 in
set_option maxHeartbeats 4000000 in
theorem c_X1_held (l : Launch) (dC : Nat → ClassId) (dI : Nat → Nat → Nat) (dA : Nat → ClassId) (κ : Nat → Nat) (B : Nat) (g : Nat → Nat → Int) (h0 : Nat) (k0 : κ h0 = 3) : Met l yX1_held wsX1_held ({ frames := 0, cells := 0, slots := 0, locals := 0 } : Room) (hp_Pre dC dI dA κ B g [Value.ref h0]) (hp_Qi dC dI dA κ B (fun r u => g = u)) 0 0 (hp_A B) := by
  refine Met.ofW (cc := cX1_held) (maxL := 1) (ret := (some .int)) (by decide) rfl ?_
  intro p e s m args below meth c s₁ Bd hml hv
  obtain ⟨rfl, hK, hN, hW, hF⟩ := hv
  have hx := Bd.exec
  have hb := Bd.bytes
  have hr := Bd.returns
  have hts := atoms_spec (ws := wsX1_held) Bd.pre
  have hown : s.vm.findClass RX1 = some m.cls := findClass_of_methodNamed Bd.named
  have hlocks := Bd.notSynchronized
  have hJ : hp_J dC dI dA κ B g s.heap s.heap [] := ⟨hF, va_S.rf⟩
  have hl := lv_entry ([Value.ref h0]) (n := 1) (Nat.le_of_ble_eq_true rfl)
  rw [lg_entry_eq]
  generalize (lg_sl ([Value.ref h0]) ++ List.replicate (1 - (lg_sl ([Value.ref h0])).length) Slot.unset).toArray = ls at hl ⊢
  have hl : lv_has ls 1 [(0, .ref h0)] := hl
  refine lv_aload_n hx hb dX1_held_0 rfl (lv_at hl 0 rfl) ?_
  refine hp_geti (C := RX1) (T := TX1) (N := 2) (ci := 1) (kd := 3) hx hb hts iX1_held_X1 hown hK hJ k0 rfl rfl 1 (by decide) (hts (.fieldLink RX1 18 "NeighborBook$FrameReader" "held" "I") (List.mem_of_getElem? (i := 1) rfl)) (fun _ h9 => h9) rfl rfl dX1_held_1 (fun x1 ex1 => ?_)
  exact hp_iret hx hb hK hN hW hlocks hJ hr rfl dX1_held_4
theorem iX1_useNext_X1 : ∀ w ∈ wsX10, w ∈ wsX1_useNext := fun _ h => List.mem_cons_of_mem _ (List.mem_append_right _ h)
set_option maxRecDepth 100000 in
set_option maxHeartbeats 4000000 in
theorem c_X1_useNext (l : Launch) (dC : Nat → ClassId) (dI : Nat → Nat → Nat) (dA : Nat → ClassId) (κ : Nat → Nat) (B : Nat) (g : Nat → Nat → Int) (h0 : Nat) (k0 : κ h0 = 3) (spare : Nat) (kspare : κ spare = 2) : Met l yX1_useNext wsX1_useNext ({ frames := 0, cells := 0, slots := 0, locals := 0 } : Room) (hp_Pre dC dI dA κ B g [Value.ref h0, Value.ref spare]) (hp_Qv dC dI dA κ B (fun u => g = u)) 0 0 (hp_A B) := by
  refine Met.ofW (cc := cX1_useNext) (maxL := 2) (ret := none) (by decide) rfl ?_
  intro p e s m args below meth c s₁ Bd hml hv
  obtain ⟨rfl, hK, hN, hW, hF⟩ := hv
  have hx := Bd.exec
  have hb := Bd.bytes
  have hr := Bd.returns
  have hts := atoms_spec (ws := wsX1_useNext) Bd.pre
  have hown : s.vm.findClass RX1 = some m.cls := findClass_of_methodNamed Bd.named
  have hlocks := Bd.notSynchronized
  have hJ : hp_J dC dI dA κ B g s.heap s.heap [] := ⟨hF, va_S.rf⟩
  have hl := lv_entry ([Value.ref h0, Value.ref spare]) (n := 2) (Nat.le_of_ble_eq_true rfl)
  rw [lg_entry_eq]
  generalize (lg_sl ([Value.ref h0, Value.ref spare]) ++ List.replicate (2 - (lg_sl ([Value.ref h0, Value.ref spare])).length) Slot.unset).toArray = ls at hl ⊢
  have hl : lv_has ls 2 [(0, .ref h0), (1, .ref spare)] := hl
  refine lv_aload_n hx hb dX1_useNext_0 rfl (lv_at hl 0 rfl) ?_
  refine lv_aload_n hx hb dX1_useNext_1 rfl (lv_at hl 1 rfl) ?_
  refine hp_put (C := RX1) (T := TX1) (N := 2) (ci := 1) (kd := 3) hx hb hts iX1_useNext_X1 hown hK hJ k0 rfl rfl 0 (by decide) (hts (.fieldLink RX1 12 "NeighborBook$FrameReader" "contents" "LNeighborBook$Contents;") (List.mem_of_getElem? (i := 1) rfl)) (fun _ h9 => h9) tyX1 tyX1_ok nmX1 (v := .ref spare) rfl rfl (by decide) hW rfl ⟨_, rfl, kspare⟩ dX1_useNext_2 (fun H locs hJ => ?_)
  exact hp_vret hx hb hK hN hW hlocks hJ hr rfl dX1_useNext_5
set_option maxRecDepth 100000 in
set_option maxHeartbeats 4000000 in
theorem c_X1_pairAt (l : Launch) (dC : Nat → ClassId) (dI : Nat → Nat → Nat) (dA : Nat → ClassId) (κ : Nat → Nat) (B : Nat) (g : Nat → Nat → Int) (frame : Nat) (kframe : κ frame = 12) (at_ : Int32) (hat : at_.toInt ≤ 1000000) : Met l yX1_pairAt wsX1_pairAt ({ frames := 0, cells := 0, slots := 0, locals := 0 } : Room) (hp_Pre dC dI dA κ B g [Value.ref frame, Value.int at_]) (hp_Qi dC dI dA κ B (fun r u => g = u)) 0 0 (hp_A B) := by
  refine Met.ofW (cc := cX1_pairAt) (maxL := 2) (ret := (some .int)) (by decide) rfl ?_
  intro p e s m args below meth c s₁ Bd hml hv
  obtain ⟨rfl, hK, hN, hW, hF⟩ := hv
  have hx := Bd.exec
  have hb := Bd.bytes
  have hr := Bd.returns
  have hts := atoms_spec (ws := wsX1_pairAt) Bd.pre
  have hown : s.vm.findClass RX1 = some m.cls := findClass_of_methodNamed Bd.named
  have hlocks := Bd.notSynchronized
  have hJ : hp_J dC dI dA κ B g s.heap s.heap [] := ⟨hF, va_S.rf⟩
  have hl := lv_entry ([Value.ref frame, Value.int at_]) (n := 2) (Nat.le_of_ble_eq_true rfl)
  rw [lg_entry_eq]
  generalize (lg_sl ([Value.ref frame, Value.int at_]) ++ List.replicate (2 - (lg_sl ([Value.ref frame, Value.int at_])).length) Slot.unset).toArray = ls at hl ⊢
  have hl : lv_has ls 2 [(0, .ref frame), (1, .int at_)] := hl
  refine lv_iload_n hx hb dX1_pairAt_0 rfl (lv_at hl 1 rfl) ?_
  refine hq_if_lt (tgt := 12) hx hb dX1_pairAt_1 (by decide) (fun c1 => ?_) (fun c1 => ?_)
  · refine hq_iconst hx hb dX1_pairAt_12 (by decide) (by decide) (fun z2 ez2 => ?_)
    exact hp_iret hx hb hK hN hW hlocks hJ hr rfl dX1_pairAt_13
  · refine lv_iload_n hx hb dX1_pairAt_4 rfl (lv_at hl 1 rfl) ?_
    refine hq_iconst hx hb dX1_pairAt_5 (by decide) (by decide) (fun z3 ez3 => ?_)
    refine hq_iadd hx hb dX1_pairAt_6 (by omega) (by omega) (fun x4 ex4 => ?_)
    refine lv_aload_n hx hb dX1_pairAt_7 rfl (lv_at hl 0 rfl) ?_
    refine hp_alen (q := (dA 1, .byte)) (ty := 1) (n := 700) hx hb hK hJ kframe rfl rfl rfl (by decide) dX1_pairAt_8 (fun x5 ex5 => ?_)
    have ex5 : x5.toInt = 700 := ex5
    refine hq_icmp_lt (tgt := 14) hx hb dX1_pairAt_9 (by decide) (fun c6 => ?_) (fun c6 => ?_)
    · refine lv_aload_n hx hb dX1_pairAt_14 rfl (lv_at hl 0 rfl) ?_
      refine lv_iload_n hx hb dX1_pairAt_15 rfl (lv_at hl 1 rfl) ?_
      refine hp_bald (kd := 12) (n := 700) hx hb hK hJ kframe rfl (by omega) (by omega) (sp := (5, 0)) rfl rfl dX1_pairAt_16 (fun x7 ex7 => ?_)
      have ex7 : -128 ≤ x7.toInt ∧ x7.toInt ≤ 127 := ex7
      refine hq_sipush hx hb dX1_pairAt_17 (by decide) (fun z8 ez8 => ?_)
      refine hq_iandm (k := 8) hx hb dX1_pairAt_20 ez8 (by decide) (fun x9 ex9 => ?_)
      refine hq_bipush hx hb dX1_pairAt_21 (by decide) (fun z10 ez10 => ?_)
      refine hq_ishlU hx hb dX1_pairAt_23 (fun x11 => ?_)
      refine lv_aload_n hx hb dX1_pairAt_24 rfl (lv_at hl 0 rfl) ?_
      refine lv_iload_n hx hb dX1_pairAt_25 rfl (lv_at hl 1 rfl) ?_
      refine hq_iconst hx hb dX1_pairAt_26 (by decide) (by decide) (fun z12 ez12 => ?_)
      refine hq_iadd hx hb dX1_pairAt_27 (by omega) (by omega) (fun x13 ex13 => ?_)
      refine hp_bald (kd := 12) (n := 700) hx hb hK hJ kframe rfl (by omega) (by omega) (sp := (5, 0)) rfl rfl dX1_pairAt_28 (fun x14 ex14 => ?_)
      have ex14 : -128 ≤ x14.toInt ∧ x14.toInt ≤ 127 := ex14
      refine hq_sipush hx hb dX1_pairAt_29 (by decide) (fun z15 ez15 => ?_)
      refine hq_iandm (k := 8) hx hb dX1_pairAt_32 ez15 (by decide) (fun x16 ex16 => ?_)
      refine hq_iorU hx hb dX1_pairAt_33 (fun x17 => ?_)
      exact hp_iret hx hb hK hN hW hlocks hJ hr rfl dX1_pairAt_34
    · refine hq_iconst hx hb dX1_pairAt_12 (by decide) (by decide) (fun z18 ez18 => ?_)
      exact hp_iret hx hb hK hN hW hlocks hJ hr rfl dX1_pairAt_13
set_option maxRecDepth 100000 in
set_option maxHeartbeats 4000000 in
theorem c_X1_isOutOfOrder (l : Launch) (dC : Nat → ClassId) (dI : Nat → Nat → Nat) (dA : Nat → ClassId) (κ : Nat → Nat) (B : Nat) (g : Nat → Nat → Int) (part : Int32) (type : Int32) : Met l yX1_isOutOfOrder wsX1_isOutOfOrder ({ frames := 0, cells := 0, slots := 0, locals := 0 } : Room) (hp_Pre dC dI dA κ B g [Value.int part, Value.int type]) (hp_Qi dC dI dA κ B (fun r u => g = u ∧ (r.toInt = 0 ∨ r.toInt = 1))) 0 0 (hp_A B) := by
  refine Met.ofW (cc := cX1_isOutOfOrder) (maxL := 2) (ret := (some .boolean)) (by decide) rfl ?_
  intro p e s m args below meth c s₁ Bd hml hv
  obtain ⟨rfl, hK, hN, hW, hF⟩ := hv
  have hx := Bd.exec
  have hb := Bd.bytes
  have hr := Bd.returns
  have hts := atoms_spec (ws := wsX1_isOutOfOrder) Bd.pre
  have hown : s.vm.findClass RX1 = some m.cls := findClass_of_methodNamed Bd.named
  have hlocks := Bd.notSynchronized
  have hJ : hp_J dC dI dA κ B g s.heap s.heap [] := ⟨hF, va_S.rf⟩
  have hl := lv_entry ([Value.int part, Value.int type]) (n := 2) (Nat.le_of_ble_eq_true rfl)
  rw [lg_entry_eq]
  generalize (lg_sl ([Value.int part, Value.int type]) ++ List.replicate (2 - (lg_sl ([Value.int part, Value.int type])).length) Slot.unset).toArray = ls at hl ⊢
  have hl : lv_has ls 2 [(0, .int part), (1, .int type)] := hl
  refine lv_iload_n hx hb dX1_isOutOfOrder_0 rfl (lv_at hl 0 rfl) ?_
  refine hq_iconst hx hb dX1_isOutOfOrder_1 (by decide) (by decide) (fun z1 ez1 => ?_)
  refine hq_icmp_ge (tgt := 18) hx hb dX1_isOutOfOrder_2 (by decide) (fun c2 => ?_) (fun c2 => ?_)
  · refine lv_iload_n hx hb dX1_isOutOfOrder_18 rfl (lv_at hl 1 rfl) ?_
    refine hq_iconst hx hb dX1_isOutOfOrder_19 (by decide) (by decide) (fun z3 ez3 => ?_)
    refine hq_icmp_lt (tgt := 32) hx hb dX1_isOutOfOrder_20 (by decide) (fun c4 => ?_) (fun c4 => ?_)
    · refine hq_iconst hx hb dX1_isOutOfOrder_32 (by decide) (by decide) (fun z5 ez5 => ?_)
      exact hp_zret hx hb hK hN hW hlocks hJ hr (by omega) ⟨rfl, by omega⟩ dX1_isOutOfOrder_33
    · refine lv_iload_n hx hb dX1_isOutOfOrder_23 rfl (lv_at hl 1 rfl) ?_
      refine hq_iconst hx hb dX1_isOutOfOrder_24 (by decide) (by decide) (fun z6 ez6 => ?_)
      refine hq_icmp_gt (tgt := 32) hx hb dX1_isOutOfOrder_25 (by decide) (fun c7 => ?_) (fun c7 => ?_)
      · refine hq_iconst hx hb dX1_isOutOfOrder_32 (by decide) (by decide) (fun z8 ez8 => ?_)
        exact hp_zret hx hb hK hN hW hlocks hJ hr (by omega) ⟨rfl, by omega⟩ dX1_isOutOfOrder_33
      · refine hq_iconst hx hb dX1_isOutOfOrder_28 (by decide) (by decide) (fun z9 ez9 => ?_)
        refine lv_goto (tgt := 33) hx hb dX1_isOutOfOrder_29 (by decide) ?_
        exact hp_zret hx hb hK hN hW hlocks hJ hr (by omega) ⟨rfl, by omega⟩ dX1_isOutOfOrder_33
  · refine lv_iload_n hx hb dX1_isOutOfOrder_5 rfl (lv_at hl 1 rfl) ?_
    refine lv_iload_n hx hb dX1_isOutOfOrder_6 rfl (lv_at hl 0 rfl) ?_
    refine hq_iconst hx hb dX1_isOutOfOrder_7 (by decide) (by decide) (fun z10 ez10 => ?_)
    refine hq_iaddU hx hb dX1_isOutOfOrder_8 (fun x11 => ?_)
    refine hq_icmp_eq (tgt := 16) hx hb dX1_isOutOfOrder_9 (by decide) (fun c12 => ?_) (fun c12 => ?_)
    · refine hq_iconst hx hb dX1_isOutOfOrder_16 (by decide) (by decide) (fun z13 ez13 => ?_)
      exact hp_zret hx hb hK hN hW hlocks hJ hr (by omega) ⟨rfl, by omega⟩ dX1_isOutOfOrder_17
    · refine hq_iconst hx hb dX1_isOutOfOrder_12 (by decide) (by decide) (fun z14 ez14 => ?_)
      refine lv_goto (tgt := 17) hx hb dX1_isOutOfOrder_13 (by decide) ?_
      exact hp_zret hx hb hK hN hW hlocks hJ hr (by omega) ⟨rfl, by omega⟩ dX1_isOutOfOrder_17
set_option maxRecDepth 100000 in
set_option maxHeartbeats 4000000 in
theorem c_X1_isWrongSize (l : Launch) (dC : Nat → ClassId) (dI : Nat → Nat → Nat) (dA : Nat → ClassId) (κ : Nat → Nat) (B : Nat) (g : Nat → Nat → Int) (type : Int32) (size : Int32) : Met l yX1_isWrongSize wsX1_isWrongSize ({ frames := 1, cells := 0, slots := 0, locals := 20 } : Room) (hp_Pre dC dI dA κ B g [Value.int type, Value.int size]) (hp_Qi dC dI dA κ B (fun r u => g = u ∧ (r.toInt = 0 ∨ r.toInt = 1))) 0 0 (hp_A B) := by
  refine Met.ofW (cc := cX1_isWrongSize) (maxL := 2) (ret := (some .boolean)) (by decide) rfl ?_
  intro p e s m args below meth c s₁ Bd hml hv
  obtain ⟨rfl, hK, hN, hW, hF⟩ := hv
  have hx := Bd.exec
  have hb := Bd.bytes
  have hr := Bd.returns
  have hts := atoms_spec (ws := wsX1_isWrongSize) Bd.pre
  have hown : s.vm.findClass RX1 = some m.cls := findClass_of_methodNamed Bd.named
  have hlocks := Bd.notSynchronized
  have hJ : hp_J dC dI dA κ B g s.heap s.heap [] := ⟨hF, va_S.rf⟩
  have hl := lv_entry ([Value.int type, Value.int size]) (n := 2) (Nat.le_of_ble_eq_true rfl)
  rw [lg_entry_eq]
  generalize (lg_sl ([Value.int type, Value.int size]) ++ List.replicate (2 - (lg_sl ([Value.int type, Value.int size])).length) Slot.unset).toArray = ls at hl ⊢
  have hl : lv_has ls 2 [(0, .int type), (1, .int size)] := hl
  refine lv_iload_n hx hb dX1_isWrongSize_0 rfl (lv_at hl 0 rfl) ?_
  refine hq_if_ne (tgt := 14) hx hb dX1_isWrongSize_1 (by decide) (fun c1 => ?_) (fun c1 => ?_)
  · refine lv_iload_n hx hb dX1_isWrongSize_14 rfl (lv_at hl 0 rfl) ?_
    refine hq_iconst hx hb dX1_isWrongSize_15 (by decide) (by decide) (fun z2 ez2 => ?_)
    refine hq_icmp_eq (tgt := 24) hx hb dX1_isWrongSize_16 (by decide) (fun c3 => ?_) (fun c3 => ?_)
    · refine lv_iload_n hx hb dX1_isWrongSize_24 rfl (lv_at hl 1 rfl) ?_
      refine hq_iconst hx hb dX1_isWrongSize_25 (by decide) (by decide) (fun z4 ez4 => ?_)
      refine hq_icmp_lt (tgt := 35) hx hb dX1_isWrongSize_26 (by decide) (fun c5 => ?_) (fun c5 => ?_)
      · refine hq_iconst hx hb dX1_isWrongSize_35 (by decide) (by decide) (fun z6 ez6 => ?_)
        refine lv_goto (tgt := 40) hx hb dX1_isWrongSize_36 (by decide) ?_
        exact hp_zret hx hb hK hN hW hlocks hJ hr (by omega) ⟨rfl, by omega⟩ dX1_isWrongSize_40
      · refine lv_iload_n hx hb dX1_isWrongSize_29 rfl (lv_at hl 1 rfl) ?_
        refine hq_bipush hx hb dX1_isWrongSize_30 (by decide) (fun z7 ez7 => ?_)
        refine hq_icmp_le (tgt := 39) hx hb dX1_isWrongSize_32 (by decide) (fun c8 => ?_) (fun c8 => ?_)
        · refine hq_iconst hx hb dX1_isWrongSize_39 (by decide) (by decide) (fun z9 ez9 => ?_)
          exact hp_zret hx hb hK hN hW hlocks hJ hr (by omega) ⟨rfl, by omega⟩ dX1_isWrongSize_40
        · refine hq_iconst hx hb dX1_isWrongSize_35 (by decide) (by decide) (fun z10 ez10 => ?_)
          refine lv_goto (tgt := 40) hx hb dX1_isWrongSize_36 (by decide) ?_
          exact hp_zret hx hb hK hN hW hlocks hJ hr (by omega) ⟨rfl, by omega⟩ dX1_isWrongSize_40
    · refine lv_iload_n hx hb dX1_isWrongSize_19 rfl (lv_at hl 0 rfl) ?_
      refine hq_iconst hx hb dX1_isWrongSize_20 (by decide) (by decide) (fun z11 ez11 => ?_)
      refine hq_icmp_ne (tgt := 41) hx hb dX1_isWrongSize_21 (by decide) (fun c12 => ?_) (fun c12 => ?_)
      · refine lv_iload_n hx hb dX1_isWrongSize_41 rfl (lv_at hl 0 rfl) ?_
        refine hq_iconst hx hb dX1_isWrongSize_42 (by decide) (by decide) (fun z13 ez13 => ?_)
        refine hq_icmp_ne (tgt := 57) hx hb dX1_isWrongSize_43 (by decide) (fun c14 => ?_) (fun c14 => ?_)
        · refine lv_iload_n hx hb dX1_isWrongSize_57 rfl (lv_at hl 0 rfl) ?_
          refine hp_calli (va_runSN (As := [.int type]) (rest := []) ⟨hx, hb, hml, hown, hts⟩ (c_X6_isMore l dC dI dA κ B g type) ⟨va_cnB 1 hts gX1_isWrongSize_X6_isMore_n44 rfl rfl rfl (hN _ (List.mem_of_getElem? (i := 5) rfl)) (hts (.initialized RX6) (List.mem_of_getElem? (i := 2) rfl)) (by decide +kernel) ⟨Nat.le_of_ble_eq_true rfl, Nat.le_of_ble_eq_true rfl⟩, (hts (.static yX6_isMore) (List.mem_of_getElem? (i := 1) rfl)), trivial⟩ (hp_preS [.int type] hK hN hW hJ) rfl rfl hl.1 rfl (lv_room (Nat.le_of_ble_eq_true rfl)) dX1_isWrongSize_58 ⟨Nat.zero_le _, Nat.zero_le _⟩) hJ (fun x16 g15 H locs hp hJ => ?_)
          obtain ⟨rfl, f17⟩ := hp
          refine hq_if_eq (tgt := 74) hx hb dX1_isWrongSize_61 (by decide) (fun c18 => ?_) (fun c18 => ?_)
          · refine hq_iconst hx hb dX1_isWrongSize_74 (by decide) (by decide) (fun z19 ez19 => ?_)
            exact hp_zret hx hb hK hN hW hlocks hJ hr (by omega) ⟨rfl, by omega⟩ dX1_isWrongSize_75
          · refine lv_iload_n hx hb dX1_isWrongSize_64 rfl (lv_at hl 1 rfl) ?_
            refine hq_bipush hx hb dX1_isWrongSize_65 (by decide) (fun z20 ez20 => ?_)
            refine hq_icmp_le (tgt := 74) hx hb dX1_isWrongSize_67 (by decide) (fun c21 => ?_) (fun c21 => ?_)
            · refine hq_iconst hx hb dX1_isWrongSize_74 (by decide) (by decide) (fun z22 ez22 => ?_)
              exact hp_zret hx hb hK hN hW hlocks hJ hr (by omega) ⟨rfl, by omega⟩ dX1_isWrongSize_75
            · refine hq_iconst hx hb dX1_isWrongSize_70 (by decide) (by decide) (fun z23 ez23 => ?_)
              refine lv_goto (tgt := 75) hx hb dX1_isWrongSize_71 (by decide) ?_
              exact hp_zret hx hb hK hN hW hlocks hJ hr (by omega) ⟨rfl, by omega⟩ dX1_isWrongSize_75
        · refine lv_iload_n hx hb dX1_isWrongSize_46 rfl (lv_at hl 1 rfl) ?_
          refine hq_iconst hx hb dX1_isWrongSize_47 (by decide) (by decide) (fun z24 ez24 => ?_)
          refine hq_icmp_ge (tgt := 55) hx hb dX1_isWrongSize_48 (by decide) (fun c25 => ?_) (fun c25 => ?_)
          · refine hq_iconst hx hb dX1_isWrongSize_55 (by decide) (by decide) (fun z26 ez26 => ?_)
            exact hp_zret hx hb hK hN hW hlocks hJ hr (by omega) ⟨rfl, by omega⟩ dX1_isWrongSize_56
          · refine hq_iconst hx hb dX1_isWrongSize_51 (by decide) (by decide) (fun z27 ez27 => ?_)
            refine lv_goto (tgt := 56) hx hb dX1_isWrongSize_52 (by decide) ?_
            exact hp_zret hx hb hK hN hW hlocks hJ hr (by omega) ⟨rfl, by omega⟩ dX1_isWrongSize_56
      · refine lv_iload_n hx hb dX1_isWrongSize_24 rfl (lv_at hl 1 rfl) ?_
        refine hq_iconst hx hb dX1_isWrongSize_25 (by decide) (by decide) (fun z28 ez28 => ?_)
        refine hq_icmp_lt (tgt := 35) hx hb dX1_isWrongSize_26 (by decide) (fun c29 => ?_) (fun c29 => ?_)
        · refine hq_iconst hx hb dX1_isWrongSize_35 (by decide) (by decide) (fun z30 ez30 => ?_)
          refine lv_goto (tgt := 40) hx hb dX1_isWrongSize_36 (by decide) ?_
          exact hp_zret hx hb hK hN hW hlocks hJ hr (by omega) ⟨rfl, by omega⟩ dX1_isWrongSize_40
        · refine lv_iload_n hx hb dX1_isWrongSize_29 rfl (lv_at hl 1 rfl) ?_
          refine hq_bipush hx hb dX1_isWrongSize_30 (by decide) (fun z31 ez31 => ?_)
          refine hq_icmp_le (tgt := 39) hx hb dX1_isWrongSize_32 (by decide) (fun c32 => ?_) (fun c32 => ?_)
          · refine hq_iconst hx hb dX1_isWrongSize_39 (by decide) (by decide) (fun z33 ez33 => ?_)
            exact hp_zret hx hb hK hN hW hlocks hJ hr (by omega) ⟨rfl, by omega⟩ dX1_isWrongSize_40
          · refine hq_iconst hx hb dX1_isWrongSize_35 (by decide) (by decide) (fun z34 ez34 => ?_)
            refine lv_goto (tgt := 40) hx hb dX1_isWrongSize_36 (by decide) ?_
            exact hp_zret hx hb hK hN hW hlocks hJ hr (by omega) ⟨rfl, by omega⟩ dX1_isWrongSize_40
  · refine lv_iload_n hx hb dX1_isWrongSize_4 rfl (lv_at hl 1 rfl) ?_
    refine hq_if_eq (tgt := 12) hx hb dX1_isWrongSize_5 (by decide) (fun c35 => ?_) (fun c35 => ?_)
    · refine hq_iconst hx hb dX1_isWrongSize_12 (by decide) (by decide) (fun z36 ez36 => ?_)
      exact hp_zret hx hb hK hN hW hlocks hJ hr (by omega) ⟨rfl, by omega⟩ dX1_isWrongSize_13
    · refine hq_iconst hx hb dX1_isWrongSize_8 (by decide) (by decide) (fun z37 ez37 => ?_)
      refine lv_goto (tgt := 13) hx hb dX1_isWrongSize_9 (by decide) ?_
      exact hp_zret hx hb hK hN hW hlocks hJ hr (by omega) ⟨rfl, by omega⟩ dX1_isWrongSize_13
theorem iX1_faultOfPart_X1 : ∀ w ∈ wsX10, w ∈ wsX1_faultOfPart := fun _ h => List.mem_cons_of_mem _ (List.mem_append_left _ (List.mem_append_right _ h))
theorem iX1_faultOfPart_X0 : ∀ w ∈ wsX00, w ∈ wsX1_faultOfPart := fun _ h => List.mem_cons_of_mem _ (List.mem_append_right _ h)
set_option maxRecDepth 100000 in
set_option maxHeartbeats 4000000 in
theorem c_X1_faultOfPart (l : Launch) (dC : Nat → ClassId) (dI : Nat → Nat → Nat) (dA : Nat → ClassId) (κ : Nat → Nat) (B : Nat) (g : Nat → Nat → Int) (h0 : Nat) (k0 : κ h0 = 3) (part : Int32) (type : Int32) (size : Int32) (rest : Int32) : Met l yX1_faultOfPart wsX1_faultOfPart ({ frames := 2, cells := 0, slots := 0, locals := 42 } : Room) (hp_Pre dC dI dA κ B g [Value.ref h0, Value.int part, Value.int type, Value.int size, Value.int rest]) (hp_Qi dC dI dA κ B (fun r u => g = u)) 0 0 (hp_A B) := by
  refine Met.ofW (cc := cX1_faultOfPart) (maxL := 5) (ret := (some .int)) (by decide) rfl ?_
  intro p e s m args below meth c s₁ Bd hml hv
  obtain ⟨rfl, hK, hN, hW, hF⟩ := hv
  have hx := Bd.exec
  have hb := Bd.bytes
  have hr := Bd.returns
  have hts := atoms_spec (ws := wsX1_faultOfPart) Bd.pre
  have hown : s.vm.findClass RX1 = some m.cls := findClass_of_methodNamed Bd.named
  have hlocks := Bd.notSynchronized
  have hJ : hp_J dC dI dA κ B g s.heap s.heap [] := ⟨hF, va_S.rf⟩
  have hl := lv_entry ([Value.ref h0, Value.int part, Value.int type, Value.int size, Value.int rest]) (n := 5) (Nat.le_of_ble_eq_true rfl)
  rw [lg_entry_eq]
  generalize (lg_sl ([Value.ref h0, Value.int part, Value.int type, Value.int size, Value.int rest]) ++ List.replicate (5 - (lg_sl ([Value.ref h0, Value.int part, Value.int type, Value.int size, Value.int rest])).length) Slot.unset).toArray = ls at hl ⊢
  have hl : lv_has ls 5 [(0, .ref h0), (1, .int part), (2, .int type), (3, .int size), (4, .int rest)] := hl
  refine lv_iload_n hx hb dX1_faultOfPart_0 rfl (lv_at hl 1 rfl) ?_
  refine lv_iload_n hx hb dX1_faultOfPart_1 rfl (lv_at hl 2 rfl) ?_
  refine hp_calli (va_runS (As := [.int part, .int type]) (rest := []) ⟨hx, hb, hml, hown, hts⟩ (c_X1_isOutOfOrder l dC dI dA κ B g part type) (va_cwS 2 hts gX1_faultOfPart_X1_isOutOfOrder rfl rfl rfl (by decide +kernel) ⟨Nat.le_of_ble_eq_true rfl, Nat.le_of_ble_eq_true rfl⟩) (hp_preS [.int part, .int type] hK hN hW hJ) rfl rfl hl.1 rfl (lv_room (Nat.le_of_ble_eq_true rfl)) dX1_faultOfPart_2 ⟨Nat.zero_le _, Nat.zero_le _⟩) hJ (fun x2 g1 H locs hp hJ => ?_)
  obtain ⟨rfl, f3⟩ := hp
  refine hq_if_eq (tgt := 10) hx hb dX1_faultOfPart_5 (by decide) (fun c4 => ?_) (fun c4 => ?_)
  · refine lv_iload_n hx hb dX1_faultOfPart_10 rfl (lv_at hl 2 rfl) ?_
    refine lv_iload_n hx hb dX1_faultOfPart_11 rfl (lv_at hl 3 rfl) ?_
    refine hp_calli (va_runS (As := [.int type, .int size]) (rest := []) ⟨hx, hb, hml, hown, hts⟩ (c_X1_isWrongSize l dC dI dA κ B g type size) (va_cwS 2 hts gX1_faultOfPart_X1_isWrongSize rfl rfl rfl (by decide +kernel) ⟨Nat.le_of_ble_eq_true rfl, Nat.le_of_ble_eq_true rfl⟩) (hp_preS [.int type, .int size] hK hN hW hJ) rfl rfl hl.1 rfl (lv_room (Nat.le_of_ble_eq_true rfl)) dX1_faultOfPart_12 ⟨Nat.zero_le _, Nat.zero_le _⟩) hJ (fun x6 g5 H locs hp hJ => ?_)
    obtain ⟨rfl, f7⟩ := hp
    refine hq_if_eq (tgt := 20) hx hb dX1_faultOfPart_15 (by decide) (fun c8 => ?_) (fun c8 => ?_)
    · refine lv_iload_n hx hb dX1_faultOfPart_20 rfl (lv_at hl 3 rfl) ?_
      refine lv_iload hx hb dX1_faultOfPart_21 (lv_at hl 4 rfl) ?_
      refine hq_icmp_le (tgt := 28) hx hb dX1_faultOfPart_23 (by decide) (fun c9 => ?_) (fun c9 => ?_)
      · refine lv_iload_n hx hb dX1_faultOfPart_28 rfl (lv_at hl 2 rfl) ?_
        refine hp_calli (va_runSN (As := [.int type]) (rest := []) ⟨hx, hb, hml, hown, hts⟩ (c_X6_isMore l dC dI dA κ B g type) ⟨va_cnB 1 hts gX1_faultOfPart_X6_isMore_n44 rfl rfl rfl (hN _ (List.mem_of_getElem? (i := 5) rfl)) (hts (.initialized RX6) (List.mem_of_getElem? (i := 10) rfl)) (by decide +kernel) ⟨Nat.le_of_ble_eq_true rfl, Nat.le_of_ble_eq_true rfl⟩, (hts (.static yX6_isMore) (List.mem_of_getElem? (i := 9) rfl)), trivial⟩ (hp_preS [.int type] hK hN hW hJ) rfl rfl hl.1 rfl (lv_room (Nat.le_of_ble_eq_true rfl)) dX1_faultOfPart_29 ⟨Nat.zero_le _, Nat.zero_le _⟩) hJ (fun x11 g10 H locs hp hJ => ?_)
        obtain ⟨rfl, f12⟩ := hp
        refine hq_if_eq (tgt := 50) hx hb dX1_faultOfPart_32 (by decide) (fun c13 => ?_) (fun c13 => ?_)
        · refine hq_iconst hx hb dX1_faultOfPart_50 (by decide) (by decide) (fun z14 ez14 => ?_)
          exact hp_iret hx hb hK hN hW hlocks hJ hr rfl dX1_faultOfPart_51
        · refine lv_aload_n hx hb dX1_faultOfPart_35 rfl (lv_at hl 0 rfl) ?_
          refine hp_getr (C := RX1) (T := TX1) (N := 2) (ci := 1) (kd := 3) hx hb hts iX1_faultOfPart_X1 hown hK hJ k0 rfl rfl 0 (by decide) (hts (.fieldLink RX1 12 "NeighborBook$FrameReader" "contents" "LNeighborBook$Contents;") (List.mem_of_getElem? (i := 1) rfl)) (fun _ h9 => h9) rfl dX1_faultOfPart_36 (fun b15 kb15 => ?_)
          refine lv_iload_n hx hb dX1_faultOfPart_39 rfl (lv_at hl 2 rfl) ?_
          refine hp_calli (va_runV (As := [.int type]) (rest := []) ⟨hx, hb, hml, hown, hts⟩ (c_X0_has l dC dI dA κ B g b15 kb15 type) (cwV 1 hts gX1_faultOfPart_X0_has rfl rfl rfl (by decide +kernel) ⟨Nat.le_of_ble_eq_true rfl, Nat.le_of_ble_eq_true rfl⟩) (hp_preV (q := (RX0, TX0, 2)) [.int type] hK hN hW hJ kb15 rfl rfl) rfl rfl hl.1 rfl (lv_room (Nat.le_of_ble_eq_true rfl)) dX1_faultOfPart_40 ⟨Nat.zero_le _, Nat.zero_le _⟩) hJ (fun x17 g16 H locs hp hJ => ?_)
          obtain ⟨rfl, f18⟩ := hp
          refine hq_if_eq (tgt := 50) hx hb dX1_faultOfPart_43 (by decide) (fun c19 => ?_) (fun c19 => ?_)
          · refine hq_iconst hx hb dX1_faultOfPart_50 (by decide) (by decide) (fun z20 ez20 => ?_)
            exact hp_iret hx hb hK hN hW hlocks hJ hr rfl dX1_faultOfPart_51
          · refine hq_iconst hx hb dX1_faultOfPart_46 (by decide) (by decide) (fun z21 ez21 => ?_)
            refine lv_goto (tgt := 51) hx hb dX1_faultOfPart_47 (by decide) ?_
            exact hp_iret hx hb hK hN hW hlocks hJ hr rfl dX1_faultOfPart_51
      · refine hq_iconst hx hb dX1_faultOfPart_26 (by decide) (by decide) (fun z22 ez22 => ?_)
        exact hp_iret hx hb hK hN hW hlocks hJ hr rfl dX1_faultOfPart_27
    · refine hq_iconst hx hb dX1_faultOfPart_18 (by decide) (by decide) (fun z23 ez23 => ?_)
      exact hp_iret hx hb hK hN hW hlocks hJ hr rfl dX1_faultOfPart_19
  · refine hq_iconst hx hb dX1_faultOfPart_8 (by decide) (by decide) (fun z24 ez24 => ?_)
    exact hp_iret hx hb hK hN hW hlocks hJ hr rfl dX1_faultOfPart_9
theorem iX1_takePart_X1 : ∀ w ∈ wsX10, w ∈ wsX1_takePart := fun _ h => List.mem_cons_of_mem _ (List.mem_append_left _ (List.mem_append_right _ h))
theorem iX1_takePart_X0 : ∀ w ∈ wsX00, w ∈ wsX1_takePart := fun _ h => List.mem_cons_of_mem _ (List.mem_append_right _ h)
set_option maxRecDepth 100000 in
set_option maxHeartbeats 4000000 in
theorem c_X1_takePart (l : Launch) (dC : Nat → ClassId) (dI : Nat → Nat → Nat) (dA : Nat → ClassId) (κ : Nat → Nat) (B : Nat) (g : Nat → Nat → Int) (h0 : Nat) (k0 : κ h0 = 3) (type : Int32) (frame : Nat) (kframe : κ frame = 12) (start : Int32) (size : Int32) (hst : start.toInt ≤ 1000000) : Met l yX1_takePart wsX1_takePart ({ frames := 3, cells := 0, slots := 0, locals := 64 } : Room) (hp_Pre dC dI dA κ B g [Value.ref h0, Value.int type, Value.ref frame, Value.int start, Value.int size]) (hp_Qv dC dI dA κ B (fun u => g = u)) 0 0 (hp_A B) := by
  refine Met.ofW (cc := cX1_takePart) (maxL := 5) (ret := none) (by decide) rfl ?_
  intro p e s m args below meth c s₁ Bd hml hv
  obtain ⟨rfl, hK, hN, hW, hF⟩ := hv
  have hx := Bd.exec
  have hb := Bd.bytes
  have hr := Bd.returns
  have hts := atoms_spec (ws := wsX1_takePart) Bd.pre
  have hown : s.vm.findClass RX1 = some m.cls := findClass_of_methodNamed Bd.named
  have hlocks := Bd.notSynchronized
  have hJ : hp_J dC dI dA κ B g s.heap s.heap [] := ⟨hF, va_S.rf⟩
  have hl := lv_entry ([Value.ref h0, Value.int type, Value.ref frame, Value.int start, Value.int size]) (n := 5) (Nat.le_of_ble_eq_true rfl)
  rw [lg_entry_eq]
  generalize (lg_sl ([Value.ref h0, Value.int type, Value.ref frame, Value.int start, Value.int size]) ++ List.replicate (5 - (lg_sl ([Value.ref h0, Value.int type, Value.ref frame, Value.int start, Value.int size])).length) Slot.unset).toArray = ls at hl ⊢
  have hl : lv_has ls 5 [(0, .ref h0), (1, .int type), (2, .ref frame), (3, .int start), (4, .int size)] := hl
  refine lv_iload_n hx hb dX1_takePart_0 rfl (lv_at hl 1 rfl) ?_
  refine hq_iconst hx hb dX1_takePart_1 (by decide) (by decide) (fun z1 ez1 => ?_)
  refine hq_icmp_ne (tgt := 17) hx hb dX1_takePart_2 (by decide) (fun c2 => ?_) (fun c2 => ?_)
  · refine lv_aload_n hx hb dX1_takePart_17 rfl (lv_at hl 0 rfl) ?_
    refine hp_getr (C := RX1) (T := TX1) (N := 2) (ci := 1) (kd := 3) hx hb hts iX1_takePart_X1 hown hK hJ k0 rfl rfl 0 (by decide) (hts (.fieldLink RX1 12 "NeighborBook$FrameReader" "contents" "LNeighborBook$Contents;") (List.mem_of_getElem? (i := 2) rfl)) (fun _ h9 => h9) rfl dX1_takePart_18 (fun b3 kb3 => ?_)
    refine lv_iload_n hx hb dX1_takePart_21 rfl (lv_at hl 1 rfl) ?_
    refine lv_aload_n hx hb dX1_takePart_22 rfl (lv_at hl 2 rfl) ?_
    refine lv_iload_n hx hb dX1_takePart_23 rfl (lv_at hl 3 rfl) ?_
    refine lv_iload hx hb dX1_takePart_24 (lv_at hl 4 rfl) ?_
    refine hp_callv (va_runV (As := [.int type, .ref frame, .int start, .int size]) (rest := []) ⟨hx, hb, hml, hown, hts⟩ (c_X0_keep l dC dI dA κ B g b3 kb3 type frame kframe start size) (cwV 4 hts gX1_takePart_X0_keep rfl rfl rfl (by decide +kernel) ⟨Nat.le_of_ble_eq_true rfl, Nat.le_of_ble_eq_true rfl⟩) (hp_preV (q := (RX0, TX0, 2)) [.int type, .ref frame, .int start, .int size] hK hN hW hJ kb3 rfl rfl) rfl rfl hl.1 rfl (lv_room (Nat.le_of_ble_eq_true rfl)) dX1_takePart_26 ⟨Nat.zero_le _, Nat.zero_le _⟩) hJ (fun g4 H locs hp hJ => ?_)
    subst hp
    exact hp_vret hx hb hK hN hW hlocks hJ hr rfl dX1_takePart_29
  · refine lv_aload_n hx hb dX1_takePart_5 rfl (lv_at hl 0 rfl) ?_
    refine lv_aload_n hx hb dX1_takePart_6 rfl (lv_at hl 2 rfl) ?_
    refine lv_iload_n hx hb dX1_takePart_7 rfl (lv_at hl 3 rfl) ?_
    refine hp_calli (va_runS (As := [.ref frame, .int start]) (rest := [.ref h0]) ⟨hx, hb, hml, hown, hts⟩ (c_X1_pairAt l dC dI dA κ B g frame kframe start (by omega)) (va_cwS 2 hts gX1_takePart_X1_pairAt rfl rfl rfl (by decide +kernel) ⟨Nat.le_of_ble_eq_true rfl, Nat.le_of_ble_eq_true rfl⟩) (hp_preS [.ref frame, .int start] hK hN hW hJ) rfl rfl hl.1 rfl (lv_room (Nat.le_of_ble_eq_true rfl)) dX1_takePart_8 ⟨Nat.zero_le _, Nat.zero_le _⟩) hJ (fun x6 g5 H locs hp hJ => ?_)
    subst hp
    refine hp_put (C := RX1) (T := TX1) (N := 2) (ci := 1) (kd := 3) hx hb hts iX1_takePart_X1 hown hK hJ k0 rfl rfl 1 (by decide) (hts (.fieldLink RX1 18 "NeighborBook$FrameReader" "held" "I") (List.mem_of_getElem? (i := 1) rfl)) (fun _ h9 => h9) tyX1 tyX1_ok nmX1 (v := .int x6) rfl rfl (by decide) hW rfl (hs_i_ok rfl trivial) dX1_takePart_11 (fun H locs hJ => ?_)
    refine lv_goto (tgt := 29) hx hb dX1_takePart_14 (by decide) ?_
    exact hp_vret hx hb hK hN hW hlocks hJ hr rfl dX1_takePart_29
theorem iX1_read_X1 : ∀ w ∈ wsX10, w ∈ wsX1_read := fun _ h => List.mem_cons_of_mem _ (List.mem_append_left _ (List.mem_append_right _ h))
theorem iX1_read_X0 : ∀ w ∈ wsX00, w ∈ wsX1_read := fun _ h => List.mem_cons_of_mem _ (List.mem_append_right _ h)
set_option maxRecDepth 100000 in
set_option maxHeartbeats 4000000 in
theorem c_X1_read (l : Launch) (dC : Nat → ClassId) (dI : Nat → Nat → Nat) (dA : Nat → ClassId) (κ : Nat → Nat) (B : Nat) (g : Nat → Nat → Int) (h0 : Nat) (k0 : κ h0 = 3) (frame : Nat) (kframe : κ frame = 12) (length : Int32) (hl0 : 0 ≤ length.toInt) (hl7 : length.toInt ≤ 700) : Met l yX1_read wsX1_read ({ frames := 4, cells := 0, slots := 0, locals := 88 } : Room) (hp_Pre dC dI dA κ B g [Value.ref h0, Value.ref frame, Value.int length]) (hp_Qi dC dI dA κ B (fun r u => g = u)) 0 0 (hp_A B) := by
  refine Met.ofW (cc := cX1_read) (maxL := 10) (ret := (some .int)) (by decide) rfl ?_
  intro p e s m args below meth c s₁ Bd hml hv
  obtain ⟨rfl, hK, hN, hW, hF⟩ := hv
  have hx := Bd.exec
  have hb := Bd.bytes
  have hr := Bd.returns
  have hts := atoms_spec (ws := wsX1_read) Bd.pre
  have hown : s.vm.findClass RX1 = some m.cls := findClass_of_methodNamed Bd.named
  have hlocks := Bd.notSynchronized
  have hJ : hp_J dC dI dA κ B g s.heap s.heap [] := ⟨hF, va_S.rf⟩
  have hl := lv_entry ([Value.ref h0, Value.ref frame, Value.int length]) (n := 10) (Nat.le_of_ble_eq_true rfl)
  rw [lg_entry_eq]
  generalize (lg_sl ([Value.ref h0, Value.ref frame, Value.int length]) ++ List.replicate (10 - (lg_sl ([Value.ref h0, Value.ref frame, Value.int length])).length) Slot.unset).toArray = ls at hl ⊢
  have hl : lv_has ls 10 [(0, .ref h0), (1, .ref frame), (2, .int length)] := hl
  refine lv_aload_n hx hb dX1_read_0 rfl (lv_at hl 0 rfl) ?_
  refine hp_getr (C := RX1) (T := TX1) (N := 2) (ci := 1) (kd := 3) hx hb hts iX1_read_X1 hown hK hJ k0 rfl rfl 0 (by decide) (hts (.fieldLink RX1 12 "NeighborBook$FrameReader" "contents" "LNeighborBook$Contents;") (List.mem_of_getElem? (i := 1) rfl)) (fun _ h9 => h9) rfl dX1_read_1 (fun b1 kb1 => ?_)
  refine hp_callv (va_runV (As := []) (rest := []) ⟨hx, hb, hml, hown, hts⟩ (c_X0_clear l dC dI dA κ B g b1 kb1) (cwV 0 hts gX1_read_X0_clear rfl rfl rfl (by decide +kernel) ⟨Nat.le_of_ble_eq_true rfl, Nat.le_of_ble_eq_true rfl⟩) (hp_preV (q := (RX0, TX0, 2)) [] hK hN hW hJ kb1 rfl rfl) rfl rfl hl.1 rfl (lv_room (Nat.le_of_ble_eq_true rfl)) dX1_read_4 ⟨Nat.zero_le _, Nat.zero_le _⟩) hJ (fun g2 H locs hp hJ => ?_)
  subst hp
  refine hq_iconst hx hb dX1_read_7 (by decide) (by decide) (fun z3 ez3 => ?_)
  refine lv_istore_n (lv' := [(3, .int z3), (0, .ref h0), (1, .ref frame), (2, .int length)]) hx hb dX1_read_8 rfl hl (by decide) rfl (fun ls hl => ?_)
  refine hq_iconst hx hb dX1_read_9 (by decide) (by decide) (fun z4 ez4 => ?_)
  refine lv_istore (lv' := [(4, .int z4), (3, .int z3), (0, .ref h0), (1, .ref frame), (2, .int length)]) hx hb dX1_read_10 hl (by decide) rfl (fun ls hl => ?_)
  have lp7 : ∀ (nlp7 : Nat) (v5 : Int32) (v6 : Int32) (H : Heap) (locs : List Loc) (ls : Array Slot), (0 ≤ v5.toInt) → (v5.toInt ≤ 600 * v6.toInt) → (0 ≤ v6.toInt) → (v6.toInt ≤ 351) → (352 - v6.toInt < (nlp7 : Int)) → hp_J dC dI dA κ B g s.heap H locs → lv_has ls 10 [(0, .ref h0), (1, .ref frame), (2, .int length), (3, .int v5), (4, .int v6)] → W p l e (headSpec wsX1_read ({ frames := 4, cells := 0, slots := 0, locals := 88 } : Room)).room s m ([Value.ref h0, Value.ref frame, Value.int length] : List Value).toArray below meth c H locs 0 0 (MQ below (hp_Qi dC dI dA κ B (fun r u => g = u)) ([Value.ref h0, Value.ref frame, Value.int length] : List Value).toArray s 0 0 (hp_A B)) (F0 m 12 ls []) := by
    intro nlp7
    induction nlp7 with
    | zero => intro v5 v6 H locs ls iv9 iv10 iv11 iv12 hm8 hJ hl; exact absurd hm8 (by omega)
    | succ nlp7 ihlp7 =>
      intro v5 v6 H locs ls iv9 iv10 iv11 iv12 hm8 hJ hl
      refine lv_iload hx hb dX1_read_12 (lv_at hl 4 rfl) ?_
      refine hq_sipush hx hb dX1_read_14 (by decide) (fun z13 ez13 => ?_)
      refine hq_icmp_gt (tgt := 108) hx hb dX1_read_17 (by decide) (fun c14 => ?_) (fun c14 => ?_)
      · refine hq_iconst hx hb dX1_read_108 (by decide) (by decide) (fun z15 ez15 => ?_)
        exact hp_iret hx hb hK hN hW hlocks hJ hr rfl dX1_read_109
      · refine lv_iload_n hx hb dX1_read_20 rfl (lv_at hl 2 rfl) ?_
        refine lv_iload_n hx hb dX1_read_21 rfl (lv_at hl 3 rfl) ?_
        refine hq_isub hx hb dX1_read_22 (by omega) (by omega) (fun x16 ex16 => ?_)
        refine hq_iconst hx hb dX1_read_23 (by decide) (by decide) (fun z17 ez17 => ?_)
        refine hq_isub hx hb dX1_read_24 (by omega) (by omega) (fun x18 ex18 => ?_)
        refine lv_istore (lv' := [(5, .int x18), (0, .ref h0), (1, .ref frame), (2, .int length), (3, .int v5), (4, .int v6)]) hx hb dX1_read_25 hl (by decide) rfl (fun ls hl => ?_)
        refine lv_iload hx hb dX1_read_27 (lv_at hl 0 rfl) ?_
        refine hq_if_ge (tgt := 34) hx hb dX1_read_29 (by decide) (fun c19 => ?_) (fun c19 => ?_)
        · refine lv_aload_n hx hb dX1_read_34 rfl (lv_at hl 2 rfl) ?_
          refine lv_iload_n hx hb dX1_read_35 rfl (lv_at hl 4 rfl) ?_
          refine hp_calli (va_runS (As := [.ref frame, .int v5]) (rest := []) ⟨hx, hb, hml, hown, hts⟩ (c_X1_pairAt l dC dI dA κ B g frame kframe v5 (by omega)) (va_cwS 2 hts gX1_read_X1_pairAt rfl rfl rfl (by decide +kernel) ⟨Nat.le_of_ble_eq_true rfl, Nat.le_of_ble_eq_true rfl⟩) (hp_preS [.ref frame, .int v5] hK hN hW hJ) rfl rfl hl.1 rfl (lv_room (Nat.le_of_ble_eq_true rfl)) dX1_read_36 ⟨Nat.zero_le _, Nat.zero_le _⟩) hJ (fun x21 g20 H locs hp hJ => ?_)
          subst hp
          refine lv_istore (lv' := [(6, .int x21), (5, .int x18), (0, .ref h0), (1, .ref frame), (2, .int length), (3, .int v5), (4, .int v6)]) hx hb dX1_read_39 hl (by decide) rfl (fun ls hl => ?_)
          refine lv_iload hx hb dX1_read_41 (lv_at hl 0 rfl) ?_
          refine hq_bipush hx hb dX1_read_43 (by decide) (fun z22 ez22 => ?_)
          refine hq_ishrU hx hb dX1_read_45 (fun x23 => ?_)
          refine lv_istore (lv' := [(7, .int x23), (6, .int x21), (5, .int x18), (0, .ref h0), (1, .ref frame), (2, .int length), (3, .int v5), (4, .int v6)]) hx hb dX1_read_46 hl (by decide) rfl (fun ls hl => ?_)
          refine lv_iload hx hb dX1_read_48 (lv_at hl 1 rfl) ?_
          refine hq_sipush hx hb dX1_read_50 (by decide) (fun z24 ez24 => ?_)
          refine hq_iandm (k := 9) hx hb dX1_read_53 ez24 (by decide) (fun x25 ex25 => ?_)
          refine lv_istore (lv' := [(8, .int x25), (7, .int x23), (6, .int x21), (5, .int x18), (0, .ref h0), (1, .ref frame), (2, .int length), (3, .int v5), (4, .int v6)]) hx hb dX1_read_54 hl (by decide) rfl (fun ls hl => ?_)
          refine lv_aload_n hx hb dX1_read_56 rfl (lv_at hl 4 rfl) ?_
          refine lv_iload hx hb dX1_read_57 (lv_at hl 8 rfl) ?_
          refine lv_iload hx hb dX1_read_59 (lv_at hl 1 rfl) ?_
          refine lv_iload hx hb dX1_read_61 (lv_at hl 0 rfl) ?_
          refine lv_iload hx hb dX1_read_63 (lv_at hl 3 rfl) ?_
          refine hp_calli (va_runV (As := [.int v6, .int x23, .int x25, .int x18]) (rest := []) ⟨hx, hb, hml, hown, hts⟩ (c_X1_faultOfPart l dC dI dA κ B g h0 k0 v6 x23 x25 x18) (cwV 4 hts gX1_read_X1_faultOfPart rfl rfl rfl (by decide +kernel) ⟨Nat.le_of_ble_eq_true rfl, Nat.le_of_ble_eq_true rfl⟩) (hp_preV (q := (RX1, TX1, 2)) [.int v6, .int x23, .int x25, .int x18] hK hN hW hJ k0 rfl rfl) rfl rfl hl.1 rfl (lv_room (Nat.le_of_ble_eq_true rfl)) dX1_read_65 ⟨Nat.zero_le _, Nat.zero_le _⟩) hJ (fun x27 g26 H locs hp hJ => ?_)
          subst hp
          refine lv_istore (lv' := [(9, .int x27), (8, .int x25), (7, .int x23), (6, .int x21), (5, .int x18), (0, .ref h0), (1, .ref frame), (2, .int length), (3, .int v5), (4, .int v6)]) hx hb dX1_read_68 hl (by decide) rfl (fun ls hl => ?_)
          refine lv_iload hx hb dX1_read_70 (lv_at hl 0 rfl) ?_
          refine hq_if_ne (tgt := 80) hx hb dX1_read_72 (by decide) (fun c28 => ?_) (fun c28 => ?_)
          · refine lv_iload hx hb dX1_read_80 (lv_at hl 0 rfl) ?_
            exact hp_iret hx hb hK hN hW hlocks hJ hr rfl dX1_read_82
          · refine lv_iload hx hb dX1_read_75 (lv_at hl 2 rfl) ?_
            refine hq_if_ne (tgt := 83) hx hb dX1_read_77 (by decide) (fun c29 => ?_) (fun c29 => ?_)
            · refine lv_aload_n hx hb dX1_read_83 rfl (lv_at hl 5 rfl) ?_
              refine lv_iload hx hb dX1_read_84 (lv_at hl 2 rfl) ?_
              refine lv_aload_n hx hb dX1_read_86 rfl (lv_at hl 6 rfl) ?_
              refine lv_iload_n hx hb dX1_read_87 rfl (lv_at hl 8 rfl) ?_
              refine hq_iconst hx hb dX1_read_88 (by decide) (by decide) (fun z30 ez30 => ?_)
              refine hq_iadd hx hb dX1_read_89 (by omega) (by omega) (fun x31 ex31 => ?_)
              refine lv_iload hx hb dX1_read_90 (lv_at hl 1 rfl) ?_
              refine hp_callv (va_runV (As := [.int x23, .ref frame, .int x31, .int x25]) (rest := []) ⟨hx, hb, hml, hown, hts⟩ (c_X1_takePart l dC dI dA κ B g h0 k0 x23 frame kframe x31 x25 (by omega)) (cwV 4 hts gX1_read_X1_takePart rfl rfl rfl (by decide +kernel) ⟨Nat.le_of_ble_eq_true rfl, Nat.le_of_ble_eq_true rfl⟩) (hp_preV (q := (RX1, TX1, 2)) [.int x23, .ref frame, .int x31, .int x25] hK hN hW hJ k0 rfl rfl) rfl rfl hl.1 rfl (lv_room (Nat.le_of_ble_eq_true rfl)) dX1_read_92 ⟨Nat.zero_le _, Nat.zero_le _⟩) hJ (fun g32 H locs hp hJ => ?_)
              subst hp
              refine lv_iload_n hx hb dX1_read_95 rfl (lv_at hl 8 rfl) ?_
              refine hq_iconst hx hb dX1_read_96 (by decide) (by decide) (fun z33 ez33 => ?_)
              refine lv_iload hx hb dX1_read_97 (lv_at hl 1 rfl) ?_
              refine hq_iadd hx hb dX1_read_99 (by omega) (by omega) (fun x34 ex34 => ?_)
              refine hq_iadd hx hb dX1_read_100 (by omega) (by omega) (fun x35 ex35 => ?_)
              refine lv_istore_n (lv' := [(3, .int x35), (9, .int x27), (8, .int x25), (7, .int x23), (6, .int x21), (5, .int x18), (0, .ref h0), (1, .ref frame), (2, .int length), (4, .int v6)]) hx hb dX1_read_101 rfl hl (by decide) rfl (fun ls hl => ?_)
              refine hq_iinc (k := 9) (lv' := fun (z9 : Int32) => [(4, .int z9), (3, .int x35), (9, .int x27), (8, .int x25), (7, .int x23), (6, .int x21), (5, .int x18), (0, .ref h0), (1, .ref frame), (2, .int length)]) hx hb dX1_read_102 hl rfl (by decide) (by decide) (by omega) (by omega) (by decide) (fun _ => rfl) (fun x36 ls ex36 hl => ?_)
              have hl : lv_has ls 10 [(4, .int x36), (3, .int x35), (9, .int x27), (8, .int x25), (7, .int x23), (6, .int x21), (5, .int x18), (0, .ref h0), (1, .ref frame), (2, .int length)] := hl
              refine lv_goto (tgt := 12) hx hb dX1_read_105 (by decide) ?_
              exact ihlp7 x35 x36 _ _ ls (by omega) (by omega) (by omega) (by omega) (by omega) hJ (lv_sub hl [7, 8, 9, 1, 0] rfl)
            · refine lv_iload hx hb dX1_read_80 (lv_at hl 0 rfl) ?_
              exact hp_iret hx hb hK hN hW hlocks hJ hr rfl dX1_read_82
        · refine hq_iconst hx hb dX1_read_32 (by decide) (by decide) (fun z37 ez37 => ?_)
          exact hp_iret hx hb hK hN hW hlocks hJ hr rfl dX1_read_33
  exact lp7 ((352 - z4.toInt).toNat + 1) z3 z4 _ _ ls (by omega) (by omega) (by omega) (by omega) (by omega) hJ (lv_sub hl [2, 3, 4, 1, 0] rfl)
end
section
theorem iX2_contents_X2 : ∀ w ∈ wsX20, w ∈ wsX2_contents := fun _ h => List.mem_cons_of_mem _ (List.mem_append_right _ h)
set_option maxRecDepth 100000 in
set_option maxHeartbeats 4000000 in
theorem c_X2_contents (l : Launch) (dC : Nat → ClassId) (dI : Nat → Nat → Nat) (dA : Nat → ClassId) (κ : Nat → Nat) (B : Nat) (g : Nat → Nat → Int) (h0 : Nat) (k0 : κ h0 = 9) : Met l yX2_contents wsX2_contents ({ frames := 0, cells := 0, slots := 0, locals := 0 } : Room) (hp_Pre dC dI dA κ B g [Value.ref h0]) (hp_Qr dC dI dA κ B 2 (fun u => g = u)) 0 0 (hp_A B) := by
  refine Met.ofW (cc := cX2_contents) (maxL := 1) (ret := (some (.object "NeighborBook$Contents"))) (by decide) rfl ?_
  intro p e s m args below meth c s₁ Bd hml hv
  obtain ⟨rfl, hK, hN, hW, hF⟩ := hv
  have hx := Bd.exec
  have hb := Bd.bytes
  have hr := Bd.returns
  have hts := atoms_spec (ws := wsX2_contents) Bd.pre
  have hown : s.vm.findClass RX2 = some m.cls := findClass_of_methodNamed Bd.named
  have hlocks := Bd.notSynchronized
  have hJ : hp_J dC dI dA κ B g s.heap s.heap [] := ⟨hF, va_S.rf⟩
  have hl := lv_entry ([Value.ref h0]) (n := 1) (Nat.le_of_ble_eq_true rfl)
  rw [lg_entry_eq]
  generalize (lg_sl ([Value.ref h0]) ++ List.replicate (1 - (lg_sl ([Value.ref h0])).length) Slot.unset).toArray = ls at hl ⊢
  have hl : lv_has ls 1 [(0, .ref h0)] := hl
  refine lv_aload_n hx hb dX2_contents_0 rfl (lv_at hl 0 rfl) ?_
  refine hp_getr (C := RX2) (T := TX2) (N := 4) (ci := 2) (kd := 9) hx hb hts iX2_contents_X2 hown hK hJ k0 rfl rfl 0 (by decide) (hts (.fieldLink RX2 12 "NeighborBook$Neighbor" "contents" "LNeighborBook$Contents;") (List.mem_of_getElem? (i := 1) rfl)) (fun _ h9 => h9) rfl dX2_contents_1 (fun b1 kb1 => ?_)
  exact hp_aret hx hb hK hN hW hlocks hJ hr kb1 rfl dX2_contents_4
theorem iX2_portOf_X2 : ∀ w ∈ wsX20, w ∈ wsX2_portOf := fun _ h => List.mem_cons_of_mem _ (List.mem_append_right _ h)
set_option maxRecDepth 100000 in
set_option maxHeartbeats 4000000 in
theorem c_X2_portOf (l : Launch) (dC : Nat → ClassId) (dI : Nat → Nat → Nat) (dA : Nat → ClassId) (κ : Nat → Nat) (B : Nat) (g : Nat → Nat → Int) (h0 : Nat) (k0 : κ h0 = 9) : Met l yX2_portOf wsX2_portOf ({ frames := 0, cells := 0, slots := 0, locals := 0 } : Room) (hp_Pre dC dI dA κ B g [Value.ref h0]) (hp_Qi dC dI dA κ B (fun r u => g = u)) 0 0 (hp_A B) := by
  refine Met.ofW (cc := cX2_portOf) (maxL := 1) (ret := (some .int)) (by decide) rfl ?_
  intro p e s m args below meth c s₁ Bd hml hv
  obtain ⟨rfl, hK, hN, hW, hF⟩ := hv
  have hx := Bd.exec
  have hb := Bd.bytes
  have hr := Bd.returns
  have hts := atoms_spec (ws := wsX2_portOf) Bd.pre
  have hown : s.vm.findClass RX2 = some m.cls := findClass_of_methodNamed Bd.named
  have hlocks := Bd.notSynchronized
  have hJ : hp_J dC dI dA κ B g s.heap s.heap [] := ⟨hF, va_S.rf⟩
  have hl := lv_entry ([Value.ref h0]) (n := 1) (Nat.le_of_ble_eq_true rfl)
  rw [lg_entry_eq]
  generalize (lg_sl ([Value.ref h0]) ++ List.replicate (1 - (lg_sl ([Value.ref h0])).length) Slot.unset).toArray = ls at hl ⊢
  have hl : lv_has ls 1 [(0, .ref h0)] := hl
  refine lv_aload_n hx hb dX2_portOf_0 rfl (lv_at hl 0 rfl) ?_
  refine hp_geti (C := RX2) (T := TX2) (N := 4) (ci := 2) (kd := 9) hx hb hts iX2_portOf_X2 hown hK hJ k0 rfl rfl 1 (by decide) (hts (.fieldLink RX2 18 "NeighborBook$Neighbor" "port" "I") (List.mem_of_getElem? (i := 1) rfl)) (fun _ h9 => h9) rfl rfl dX2_portOf_1 (fun x1 ex1 => ?_)
  exact hp_iret hx hb hK hN hW hlocks hJ hr rfl dX2_portOf_4
theorem iX2_begin_X2 : ∀ w ∈ wsX20, w ∈ wsX2_begin := fun _ h => List.mem_cons_of_mem _ (List.mem_append_right _ h)
set_option maxRecDepth 100000 in
set_option maxHeartbeats 4000000 in
theorem c_X2_begin (l : Launch) (dC : Nat → ClassId) (dI : Nat → Nat → Nat) (dA : Nat → ClassId) (κ : Nat → Nat) (B : Nat) (g : Nat → Nat → Int) (h0 : Nat) (k0 : κ h0 = 9) (p1 : Int32) : Met l yX2_begin wsX2_begin ({ frames := 0, cells := 0, slots := 0, locals := 0 } : Room) (hp_Pre dC dI dA κ B g [Value.ref h0, Value.int p1]) (hp_Qv dC dI dA κ B (fun u => g = u)) 0 0 (hp_A B) := by
  refine Met.ofW (cc := cX2_begin) (maxL := 2) (ret := none) (by decide) rfl ?_
  intro p e s m args below meth c s₁ Bd hml hv
  obtain ⟨rfl, hK, hN, hW, hF⟩ := hv
  have hx := Bd.exec
  have hb := Bd.bytes
  have hr := Bd.returns
  have hts := atoms_spec (ws := wsX2_begin) Bd.pre
  have hown : s.vm.findClass RX2 = some m.cls := findClass_of_methodNamed Bd.named
  have hlocks := Bd.notSynchronized
  have hJ : hp_J dC dI dA κ B g s.heap s.heap [] := ⟨hF, va_S.rf⟩
  have hl := lv_entry ([Value.ref h0, Value.int p1]) (n := 2) (Nat.le_of_ble_eq_true rfl)
  rw [lg_entry_eq]
  generalize (lg_sl ([Value.ref h0, Value.int p1]) ++ List.replicate (2 - (lg_sl ([Value.ref h0, Value.int p1])).length) Slot.unset).toArray = ls at hl ⊢
  have hl : lv_has ls 2 [(0, .ref h0), (1, .int p1)] := hl
  refine lv_aload_n hx hb dX2_begin_0 rfl (lv_at hl 0 rfl) ?_
  refine lv_iload_n hx hb dX2_begin_1 rfl (lv_at hl 1 rfl) ?_
  refine hp_put (C := RX2) (T := TX2) (N := 4) (ci := 2) (kd := 9) hx hb hts iX2_begin_X2 hown hK hJ k0 rfl rfl 1 (by decide) (hts (.fieldLink RX2 18 "NeighborBook$Neighbor" "port" "I") (List.mem_of_getElem? (i := 1) rfl)) (fun _ h9 => h9) tyX2 tyX2_ok nmX2 (v := .int p1) rfl rfl (by decide) hW rfl (hs_i_ok rfl trivial) dX2_begin_2 (fun H locs hJ => ?_)
  refine lv_aload_n hx hb dX2_begin_5 rfl (lv_at hl 0 rfl) ?_
  refine hq_iconst hx hb dX2_begin_6 (by decide) (by decide) (fun z1 ez1 => ?_)
  refine hp_put (C := RX2) (T := TX2) (N := 4) (ci := 2) (kd := 9) hx hb hts iX2_begin_X2 hown hK hJ k0 rfl rfl 3 (by decide) (hts (.fieldLink RX2 22 "NeighborBook$Neighbor" "frames" "I") (List.mem_of_getElem? (i := 2) rfl)) (fun _ h9 => h9) tyX2 tyX2_ok nmX2 (v := .int z1) rfl rfl (by decide) hW rfl (hs_i_ok rfl trivial) dX2_begin_7 (fun H locs hJ => ?_)
  exact hp_vret hx hb hK hN hW hlocks hJ hr rfl dX2_begin_10
theorem iX2_renew_X2 : ∀ w ∈ wsX20, w ∈ wsX2_renew := fun _ h => List.mem_cons_of_mem _ (List.mem_append_right _ h)
set_option maxRecDepth 100000 in
set_option maxHeartbeats 4000000 in
theorem c_X2_renew (l : Launch) (dC : Nat → ClassId) (dI : Nat → Nat → Nat) (dA : Nat → ClassId) (κ : Nat → Nat) (B : Nat) (g : Nat → Nat → Int) (h0 : Nat) (k0 : κ h0 = 9) (heard : Nat) (kheard : κ heard = 2) (held : Int32) : Met l yX2_renew wsX2_renew ({ frames := 0, cells := 0, slots := 0, locals := 0 } : Room) (hp_Pre dC dI dA κ B g [Value.ref h0, Value.ref heard, Value.int held]) (hp_Qr dC dI dA κ B 2 (fun u => g = u)) 0 0 (hp_A B) := by
  refine Met.ofW (cc := cX2_renew) (maxL := 4) (ret := (some (.object "NeighborBook$Contents"))) (by decide) rfl ?_
  intro p e s m args below meth c s₁ Bd hml hv
  obtain ⟨rfl, hK, hN, hW, hF⟩ := hv
  have hx := Bd.exec
  have hb := Bd.bytes
  have hr := Bd.returns
  have hts := atoms_spec (ws := wsX2_renew) Bd.pre
  have hown : s.vm.findClass RX2 = some m.cls := findClass_of_methodNamed Bd.named
  have hlocks := Bd.notSynchronized
  have hJ : hp_J dC dI dA κ B g s.heap s.heap [] := ⟨hF, va_S.rf⟩
  have hl := lv_entry ([Value.ref h0, Value.ref heard, Value.int held]) (n := 4) (Nat.le_of_ble_eq_true rfl)
  rw [lg_entry_eq]
  generalize (lg_sl ([Value.ref h0, Value.ref heard, Value.int held]) ++ List.replicate (4 - (lg_sl ([Value.ref h0, Value.ref heard, Value.int held])).length) Slot.unset).toArray = ls at hl ⊢
  have hl : lv_has ls 4 [(0, .ref h0), (1, .ref heard), (2, .int held)] := hl
  refine lv_aload_n hx hb dX2_renew_0 rfl (lv_at hl 0 rfl) ?_
  refine hp_getr (C := RX2) (T := TX2) (N := 4) (ci := 2) (kd := 9) hx hb hts iX2_renew_X2 hown hK hJ k0 rfl rfl 0 (by decide) (hts (.fieldLink RX2 12 "NeighborBook$Neighbor" "contents" "LNeighborBook$Contents;") (List.mem_of_getElem? (i := 1) rfl)) (fun _ h9 => h9) rfl dX2_renew_1 (fun b1 kb1 => ?_)
  refine lv_astore_n (lv' := [(3, .ref b1), (0, .ref h0), (1, .ref heard), (2, .int held)]) hx hb dX2_renew_4 rfl hl (by decide) rfl (fun ls hl => ?_)
  refine lv_aload_n hx hb dX2_renew_5 rfl (lv_at hl 1 rfl) ?_
  refine lv_aload_n hx hb dX2_renew_6 rfl (lv_at hl 2 rfl) ?_
  refine hp_put (C := RX2) (T := TX2) (N := 4) (ci := 2) (kd := 9) hx hb hts iX2_renew_X2 hown hK hJ k0 rfl rfl 0 (by decide) (hts (.fieldLink RX2 12 "NeighborBook$Neighbor" "contents" "LNeighborBook$Contents;") (List.mem_of_getElem? (i := 1) rfl)) (fun _ h9 => h9) tyX2 tyX2_ok nmX2 (v := .ref heard) rfl rfl (by decide) hW rfl ⟨_, rfl, kheard⟩ dX2_renew_7 (fun H locs hJ => ?_)
  refine lv_aload_n hx hb dX2_renew_10 rfl (lv_at hl 1 rfl) ?_
  refine lv_iload_n hx hb dX2_renew_11 rfl (lv_at hl 3 rfl) ?_
  refine hp_put (C := RX2) (T := TX2) (N := 4) (ci := 2) (kd := 9) hx hb hts iX2_renew_X2 hown hK hJ k0 rfl rfl 2 (by decide) (hts (.fieldLink RX2 25 "NeighborBook$Neighbor" "ticksLeft" "I") (List.mem_of_getElem? (i := 2) rfl)) (fun _ h9 => h9) tyX2 tyX2_ok nmX2 (v := .int held) rfl rfl (by decide) hW rfl (hs_i_ok rfl trivial) dX2_renew_12 (fun H locs hJ => ?_)
  refine lv_aload_n hx hb dX2_renew_15 rfl (lv_at hl 1 rfl) ?_
  refine lv_dup hx hb dX2_renew_16 rfl ?_
  refine hp_geti (C := RX2) (T := TX2) (N := 4) (ci := 2) (kd := 9) hx hb hts iX2_renew_X2 hown hK hJ k0 rfl rfl 3 (by decide) (hts (.fieldLink RX2 22 "NeighborBook$Neighbor" "frames" "I") (List.mem_of_getElem? (i := 3) rfl)) (fun _ h9 => h9) rfl rfl dX2_renew_17 (fun x2 ex2 => ?_)
  refine hq_iconst hx hb dX2_renew_20 (by decide) (by decide) (fun z3 ez3 => ?_)
  refine hq_iaddU hx hb dX2_renew_21 (fun x4 => ?_)
  refine hp_put (C := RX2) (T := TX2) (N := 4) (ci := 2) (kd := 9) hx hb hts iX2_renew_X2 hown hK hJ k0 rfl rfl 3 (by decide) (hts (.fieldLink RX2 22 "NeighborBook$Neighbor" "frames" "I") (List.mem_of_getElem? (i := 3) rfl)) (fun _ h9 => h9) tyX2 tyX2_ok nmX2 (v := .int x4) rfl rfl (by decide) hW rfl (hs_i_ok rfl trivial) dX2_renew_22 (fun H locs hJ => ?_)
  refine lv_aload_n hx hb dX2_renew_25 rfl (lv_at hl 0 rfl) ?_
  exact hp_aret hx hb hK hN hW hlocks hJ hr kb1 rfl dX2_renew_26
theorem iX2_passTick_X2 : ∀ w ∈ wsX20, w ∈ wsX2_passTick := fun _ h => List.mem_cons_of_mem _ (List.mem_append_right _ h)
set_option maxRecDepth 100000 in
set_option maxHeartbeats 4000000 in
theorem c_X2_passTick (l : Launch) (dC : Nat → ClassId) (dI : Nat → Nat → Nat) (dA : Nat → ClassId) (κ : Nat → Nat) (B : Nat) (g : Nat → Nat → Int) (h0 : Nat) (k0 : κ h0 = 9) : Met l yX2_passTick wsX2_passTick ({ frames := 0, cells := 0, slots := 0, locals := 0 } : Room) (hp_Pre dC dI dA κ B g [Value.ref h0]) (hp_Qi dC dI dA κ B (fun r u => g = u ∧ (r.toInt = 0 ∨ r.toInt = 1))) 0 0 (hp_A B) := by
  refine Met.ofW (cc := cX2_passTick) (maxL := 1) (ret := (some .boolean)) (by decide) rfl ?_
  intro p e s m args below meth c s₁ Bd hml hv
  obtain ⟨rfl, hK, hN, hW, hF⟩ := hv
  have hx := Bd.exec
  have hb := Bd.bytes
  have hr := Bd.returns
  have hts := atoms_spec (ws := wsX2_passTick) Bd.pre
  have hown : s.vm.findClass RX2 = some m.cls := findClass_of_methodNamed Bd.named
  have hlocks := Bd.notSynchronized
  have hJ : hp_J dC dI dA κ B g s.heap s.heap [] := ⟨hF, va_S.rf⟩
  have hl := lv_entry ([Value.ref h0]) (n := 1) (Nat.le_of_ble_eq_true rfl)
  rw [lg_entry_eq]
  generalize (lg_sl ([Value.ref h0]) ++ List.replicate (1 - (lg_sl ([Value.ref h0])).length) Slot.unset).toArray = ls at hl ⊢
  have hl : lv_has ls 1 [(0, .ref h0)] := hl
  refine lv_aload_n hx hb dX2_passTick_0 rfl (lv_at hl 0 rfl) ?_
  refine lv_dup hx hb dX2_passTick_1 rfl ?_
  refine hp_geti (C := RX2) (T := TX2) (N := 4) (ci := 2) (kd := 9) hx hb hts iX2_passTick_X2 hown hK hJ k0 rfl rfl 2 (by decide) (hts (.fieldLink RX2 25 "NeighborBook$Neighbor" "ticksLeft" "I") (List.mem_of_getElem? (i := 1) rfl)) (fun _ h9 => h9) rfl rfl dX2_passTick_2 (fun x1 ex1 => ?_)
  refine hq_iconst hx hb dX2_passTick_5 (by decide) (by decide) (fun z2 ez2 => ?_)
  refine hq_isubU hx hb dX2_passTick_6 (fun x3 => ?_)
  refine hp_put (C := RX2) (T := TX2) (N := 4) (ci := 2) (kd := 9) hx hb hts iX2_passTick_X2 hown hK hJ k0 rfl rfl 2 (by decide) (hts (.fieldLink RX2 25 "NeighborBook$Neighbor" "ticksLeft" "I") (List.mem_of_getElem? (i := 1) rfl)) (fun _ h9 => h9) tyX2 tyX2_ok nmX2 (v := .int x3) rfl rfl (by decide) hW rfl (hs_i_ok rfl trivial) dX2_passTick_7 (fun H locs hJ => ?_)
  refine lv_aload_n hx hb dX2_passTick_10 rfl (lv_at hl 0 rfl) ?_
  refine hp_geti (C := RX2) (T := TX2) (N := 4) (ci := 2) (kd := 9) hx hb hts iX2_passTick_X2 hown hK hJ k0 rfl rfl 2 (by decide) (hts (.fieldLink RX2 25 "NeighborBook$Neighbor" "ticksLeft" "I") (List.mem_of_getElem? (i := 1) rfl)) (fun _ h9 => h9) rfl rfl dX2_passTick_11 (fun x4 ex4 => ?_)
  refine hq_if_gt (tgt := 21) hx hb dX2_passTick_14 (by decide) (fun c5 => ?_) (fun c5 => ?_)
  · refine hq_iconst hx hb dX2_passTick_21 (by decide) (by decide) (fun z6 ez6 => ?_)
    exact hp_zret hx hb hK hN hW hlocks hJ hr (by omega) ⟨rfl, by omega⟩ dX2_passTick_22
  · refine hq_iconst hx hb dX2_passTick_17 (by decide) (by decide) (fun z7 ez7 => ?_)
    refine lv_goto (tgt := 22) hx hb dX2_passTick_18 (by decide) ?_
    exact hp_zret hx hb hK hN hW hlocks hJ hr (by omega) ⟨rfl, by omega⟩ dX2_passTick_22
theorem iX2_tellAbout_X2 : ∀ w ∈ wsX20, w ∈ wsX2_tellAbout := fun _ h => List.mem_cons_of_mem _ (List.mem_append_left _ (List.mem_append_right _ h))
theorem iX2_tellAbout_X0 : ∀ w ∈ wsX00, w ∈ wsX2_tellAbout := fun _ h => List.mem_cons_of_mem _ (List.mem_append_right _ h)
set_option maxRecDepth 100000 in
set_option maxHeartbeats 4000000 in
theorem c_X2_tellAbout (l : Launch) (dC : Nat → ClassId) (dI : Nat → Nat → Nat) (dA : Nat → ClassId) (κ : Nat → Nat) (B : Nat) (g : Nat → Nat → Int) (h0 : Nat) (k0 : κ h0 = 9) (what : Int32) : Met l yX2_tellAbout wsX2_tellAbout ({ frames := 3, cells := 0, slots := 0, locals := 64 } : Room) (hp_Pre dC dI dA κ B g [Value.ref h0, Value.int what]) (hp_Qi dC dI dA κ B (fun r u => g = u)) 0 0 (hp_A B) := by
  refine Met.ofW (cc := cX2_tellAbout) (maxL := 2) (ret := (some .int)) (by decide) rfl ?_
  intro p e s m args below meth c s₁ Bd hml hv
  obtain ⟨rfl, hK, hN, hW, hF⟩ := hv
  have hx := Bd.exec
  have hb := Bd.bytes
  have hr := Bd.returns
  have hts := atoms_spec (ws := wsX2_tellAbout) Bd.pre
  have hown : s.vm.findClass RX2 = some m.cls := findClass_of_methodNamed Bd.named
  have hlocks := Bd.notSynchronized
  have hJ : hp_J dC dI dA κ B g s.heap s.heap [] := ⟨hF, va_S.rf⟩
  have hl := lv_entry ([Value.ref h0, Value.int what]) (n := 2) (Nat.le_of_ble_eq_true rfl)
  rw [lg_entry_eq]
  generalize (lg_sl ([Value.ref h0, Value.int what]) ++ List.replicate (2 - (lg_sl ([Value.ref h0, Value.int what])).length) Slot.unset).toArray = ls at hl ⊢
  have hl : lv_has ls 2 [(0, .ref h0), (1, .int what)] := hl
  refine lv_iload_n hx hb dX2_tellAbout_0 rfl (lv_at hl 1 rfl) ?_
  have h1 : (what.toInt < 0 ∨ 3 < what.toInt) ∨ what.toInt = 0 ∨ what.toInt = 1 ∨ what.toInt = 2 ∨ what.toInt = 3 := by omega
  rcases h1 with h1 | h1 | h1 | h1 | h1
  · refine lv_tableOut (tgt := 55) hx hb dX2_tellAbout_1 h1 (by decide) ?_
    refine hq_iconst hx hb dX2_tellAbout_55 (by decide) (by decide) (fun z2 ez2 => ?_)
    exact hp_iret hx hb hK hN hW hlocks hJ hr rfl dX2_tellAbout_56
  · refine lv_tableIn (off := 31) (tgt := 32) hx hb dX2_tellAbout_1 (by omega) (by omega) (by rw [h1]; rfl) (by decide) ?_
    refine lv_aload_n hx hb dX2_tellAbout_32 rfl (lv_at hl 0 rfl) ?_
    refine hp_geti (C := RX2) (T := TX2) (N := 4) (ci := 2) (kd := 9) hx hb hts iX2_tellAbout_X2 hown hK hJ k0 rfl rfl 1 (by decide) (hts (.fieldLink RX2 18 "NeighborBook$Neighbor" "port" "I") (List.mem_of_getElem? (i := 1) rfl)) (fun _ h9 => h9) rfl rfl dX2_tellAbout_33 (fun x3 ex3 => ?_)
    exact hp_iret hx hb hK hN hW hlocks hJ hr rfl dX2_tellAbout_36
  · refine lv_tableIn (off := 36) (tgt := 37) hx hb dX2_tellAbout_1 (by omega) (by omega) (by rw [h1]; rfl) (by decide) ?_
    refine lv_aload_n hx hb dX2_tellAbout_37 rfl (lv_at hl 0 rfl) ?_
    refine hp_geti (C := RX2) (T := TX2) (N := 4) (ci := 2) (kd := 9) hx hb hts iX2_tellAbout_X2 hown hK hJ k0 rfl rfl 2 (by decide) (hts (.fieldLink RX2 25 "NeighborBook$Neighbor" "ticksLeft" "I") (List.mem_of_getElem? (i := 2) rfl)) (fun _ h9 => h9) rfl rfl dX2_tellAbout_38 (fun x4 ex4 => ?_)
    exact hp_iret hx hb hK hN hW hlocks hJ hr rfl dX2_tellAbout_41
  · refine lv_tableIn (off := 41) (tgt := 42) hx hb dX2_tellAbout_1 (by omega) (by omega) (by rw [h1]; rfl) (by decide) ?_
    refine lv_aload_n hx hb dX2_tellAbout_42 rfl (lv_at hl 0 rfl) ?_
    refine hp_geti (C := RX2) (T := TX2) (N := 4) (ci := 2) (kd := 9) hx hb hts iX2_tellAbout_X2 hown hK hJ k0 rfl rfl 3 (by decide) (hts (.fieldLink RX2 22 "NeighborBook$Neighbor" "frames" "I") (List.mem_of_getElem? (i := 3) rfl)) (fun _ h9 => h9) rfl rfl dX2_tellAbout_43 (fun x5 ex5 => ?_)
    exact hp_iret hx hb hK hN hW hlocks hJ hr rfl dX2_tellAbout_46
  · refine lv_tableIn (off := 46) (tgt := 47) hx hb dX2_tellAbout_1 (by omega) (by omega) (by rw [h1]; rfl) (by decide) ?_
    refine lv_aload_n hx hb dX2_tellAbout_47 rfl (lv_at hl 0 rfl) ?_
    refine hp_getr (C := RX2) (T := TX2) (N := 4) (ci := 2) (kd := 9) hx hb hts iX2_tellAbout_X2 hown hK hJ k0 rfl rfl 0 (by decide) (hts (.fieldLink RX2 12 "NeighborBook$Neighbor" "contents" "LNeighborBook$Contents;") (List.mem_of_getElem? (i := 4) rfl)) (fun _ h9 => h9) rfl dX2_tellAbout_48 (fun b6 kb6 => ?_)
    refine hp_calli (va_runV (As := []) (rest := []) ⟨hx, hb, hml, hown, hts⟩ (c_X0_typeBits l dC dI dA κ B g b6 kb6) (cwV 0 hts gX2_tellAbout_X0_typeBits rfl rfl rfl (by decide +kernel) ⟨Nat.le_of_ble_eq_true rfl, Nat.le_of_ble_eq_true rfl⟩) (hp_preV (q := (RX0, TX0, 2)) [] hK hN hW hJ kb6 rfl rfl) rfl rfl hl.1 rfl (lv_room (Nat.le_of_ble_eq_true rfl)) dX2_tellAbout_51 ⟨Nat.zero_le _, Nat.zero_le _⟩) hJ (fun x8 g7 H locs hp hJ => ?_)
    subst hp
    exact hp_iret hx hb hK hN hW hlocks hJ hr rfl dX2_tellAbout_54
theorem iX4_isUp_X4 : ∀ w ∈ wsX40, w ∈ wsX4_isUp := fun _ h => List.mem_cons_of_mem _ (List.mem_append_right _ h)
set_option maxRecDepth 100000 in
set_option maxHeartbeats 4000000 in
theorem c_X4_isUp (l : Launch) (dC : Nat → ClassId) (dI : Nat → Nat → Nat) (dA : Nat → ClassId) (κ : Nat → Nat) (B : Nat) (g : Nat → Nat → Int) (q : Nat) (hq : q < 4) (h0 : Nat) (k0 : κ h0 = 5 + q) (hG : hg_k g) : Met l yX4_isUp wsX4_isUp ({ frames := 0, cells := 0, slots := 0, locals := 0 } : Room) (hp_Pre dC dI dA κ B g [Value.ref h0]) (hp_Qi dC dI dA κ B (fun r u => g = u ∧ r.toInt = g (5 + q) 0)) 0 0 (hp_A B) := by
  refine Met.ofW (cc := cX4_isUp) (maxL := 1) (ret := (some .boolean)) (by decide) rfl ?_
  intro p e s m args below meth c s₁ Bd hml hv
  obtain ⟨rfl, hK, hN, hW, hF⟩ := hv
  have hx := Bd.exec
  have hb := Bd.bytes
  have hr := Bd.returns
  have hts := atoms_spec (ws := wsX4_isUp) Bd.pre
  have hown : s.vm.findClass RX4 = some m.cls := findClass_of_methodNamed Bd.named
  have hlocks := Bd.notSynchronized
  have hJ : hp_J dC dI dA κ B g s.heap s.heap [] := ⟨hF, va_S.rf⟩
  have hl := lv_entry ([Value.ref h0]) (n := 1) (Nat.le_of_ble_eq_true rfl)
  rw [lg_entry_eq]
  generalize (lg_sl ([Value.ref h0]) ++ List.replicate (1 - (lg_sl ([Value.ref h0])).length) Slot.unset).toArray = ls at hl ⊢
  have hl : lv_has ls 1 [(0, .ref h0)] := hl
  obtain ⟨hG1, hG2, hG3, hG4, hG5, hG6, hG7, hG8⟩ := id hG
  have hGq := hG7 q hq
  refine lv_aload_n hx hb dX4_isUp_0 rfl (lv_at hl 0 rfl) ?_
  refine hp_geti (C := RX4) (T := TX4) (N := 6) (ci := 4) (kd := 5 + q) hx hb hts iX4_isUp_X4 hown hK hJ k0 (hk_t5 hq) rfl 0 (by decide) (hts (.fieldLink RX4 9 "NeighborBook$Port" "up" "Z") (List.mem_of_getElem? (i := 1) rfl)) (fun _ h9 => h9) (hk_s5 hq (by decide)) rfl dX4_isUp_1 (fun x1 ex1 => ?_)
  have ex1 : x1.toInt = g (5 + q) 0 := ex1
  exact hp_zret hx hb hK hN hW hlocks hJ hr (by omega) ⟨rfl, by omega⟩ dX4_isUp_4
theorem iX4_goUp_X4 : ∀ w ∈ wsX40, w ∈ wsX4_goUp := fun _ h => List.mem_cons_of_mem _ (List.mem_append_right _ h)
set_option maxRecDepth 100000 in
set_option maxHeartbeats 4000000 in
theorem c_X4_goUp (l : Launch) (dC : Nat → ClassId) (dI : Nat → Nat → Nat) (dA : Nat → ClassId) (κ : Nat → Nat) (B : Nat) (g : Nat → Nat → Int) (q : Nat) (hq : q < 4) (h0 : Nat) (k0 : κ h0 = 5 + q) (quick : Int32) (hG : hg_k g) : Met l yX4_goUp wsX4_goUp ({ frames := 0, cells := 0, slots := 0, locals := 0 } : Room) (hp_Pre dC dI dA κ B g [Value.ref h0, Value.int quick]) (hp_Qv dC dI dA κ B (fun u => hg_P hx_C g u ∧ hg_k u ∧ u 1 1 = g 1 1 ∧ ∀ j : Nat, j < 4 → u (5 + j) 0 = if j = q then 1 else g (5 + j) 0)) 0 0 (hp_A B) := by
  refine Met.ofW (cc := cX4_goUp) (maxL := 2) (ret := none) (by decide) rfl ?_
  intro p e s m args below meth c s₁ Bd hml hv
  obtain ⟨rfl, hK, hN, hW, hF⟩ := hv
  have hx := Bd.exec
  have hb := Bd.bytes
  have hr := Bd.returns
  have hts := atoms_spec (ws := wsX4_goUp) Bd.pre
  have hown : s.vm.findClass RX4 = some m.cls := findClass_of_methodNamed Bd.named
  have hlocks := Bd.notSynchronized
  have hJ : hp_J dC dI dA κ B g s.heap s.heap [] := ⟨hF, va_S.rf⟩
  have hl := lv_entry ([Value.ref h0, Value.int quick]) (n := 2) (Nat.le_of_ble_eq_true rfl)
  rw [lg_entry_eq]
  generalize (lg_sl ([Value.ref h0, Value.int quick]) ++ List.replicate (2 - (lg_sl ([Value.ref h0, Value.int quick])).length) Slot.unset).toArray = ls at hl ⊢
  have hl : lv_has ls 2 [(0, .ref h0), (1, .int quick)] := hl
  obtain ⟨hG1, hG2, hG3, hG4, hG5, hG6, hG7, hG8⟩ := id hG
  refine lv_aload_n hx hb dX4_goUp_0 rfl (lv_at hl 0 rfl) ?_
  refine hq_iconst hx hb dX4_goUp_1 (by decide) (by decide) (fun z1 ez1 => ?_)
  refine hp_putx (C := RX4) (T := TX4) (N := 6) (ci := 4) (kd := 5 + q) hx hb hts iX4_goUp_X4 hown hK hJ k0 (hk_t5 hq) rfl 0 (by decide) (hts (.fieldLink RX4 9 "NeighborBook$Port" "up" "Z") (List.mem_of_getElem? (i := 1) rfl)) (fun _ h9 => h9) tyX4 tyX4_ok nmX4 (x := z1) (hi_bool (by omega)) (hi_fz (by omega)) (by omega) hW rfl (hk_x5 hq) (hk_s5 hq (by decide)) dX4_goUp_2 (fun g2 H locs eg2 ng2 hJ => ?_)
  have eg2 : g2 (5 + q) 0 = z1.toInt := eg2
  have P3 : hg_P hx_C g g2 := hg_P.put hg_P.rf ng2 (hx_C5 hq)
  have tt4 : g2 1 1 = g 1 1 := ng2 1 1 (by omega)
  have tt5 : g2 10 1 = g 10 1 := ng2 10 1 (by omega)
  have tt6 : g2 4 1 = g 4 1 := ng2 4 1 (by omega)
  refine lv_aload_n hx hb dX4_goUp_5 rfl (lv_at hl 0 rfl) ?_
  refine lv_iload_n hx hb dX4_goUp_6 rfl (lv_at hl 1 rfl) ?_
  refine hp_putx (C := RX4) (T := TX4) (N := 6) (ci := 4) (kd := 5 + q) hx hb hts iX4_goUp_X4 hown hK hJ k0 (hk_t5 hq) rfl 2 (by decide) (hts (.fieldLink RX4 15 "NeighborBook$Port" "quickLeft" "I") (List.mem_of_getElem? (i := 2) rfl)) (fun _ h9 => h9) tyX4 tyX4_ok nmX4 (x := quick) rfl rfl (by omega) hW rfl (hk_x5 hq) (hk_s5 hq (by decide)) dX4_goUp_7 (fun g7 H locs eg7 ng7 hJ => ?_)
  have eg7 : g7 (5 + q) 2 = quick.toInt := eg7
  have P8 : hg_P hx_C g g7 := hg_P.put P3 ng7 (hx_C5 hq)
  have tt9 : g7 1 1 = g2 1 1 := ng7 1 1 (by omega)
  have tt10 : g7 10 1 = g2 10 1 := ng7 10 1 (by omega)
  have tt11 : g7 4 1 = g2 4 1 := ng7 4 1 (by omega)
  refine lv_aload_n hx hb dX4_goUp_10 rfl (lv_at hl 0 rfl) ?_
  refine hq_iconst hx hb dX4_goUp_11 (by decide) (by decide) (fun z12 ez12 => ?_)
  refine hp_putx (C := RX4) (T := TX4) (N := 6) (ci := 4) (kd := 5 + q) hx hb hts iX4_goUp_X4 hown hK hJ k0 (hk_t5 hq) rfl 1 (by decide) (hts (.fieldLink RX4 19 "NeighborBook$Port" "waitLeft" "I") (List.mem_of_getElem? (i := 3) rfl)) (fun _ h9 => h9) tyX4 tyX4_ok nmX4 (x := z12) rfl rfl (by omega) hW rfl (hk_x5 hq) (hk_s5 hq (by decide)) dX4_goUp_12 (fun g13 H locs eg13 ng13 hJ => ?_)
  have eg13 : g13 (5 + q) 1 = z12.toInt := eg13
  have P14 : hg_P hx_C g g13 := hg_P.put P8 ng13 (hx_C5 hq)
  have tt15 : g13 1 1 = g7 1 1 := ng13 1 1 (by omega)
  have tt16 : g13 10 1 = g7 10 1 := ng13 10 1 (by omega)
  have tt17 : g13 4 1 = g7 4 1 := ng13 4 1 (by omega)
  have hu : ∀ j : Nat, j < 4 → g13 (5 + j) 0 = if j = q then 1 else g (5 + j) 0 := by
    intro j hj
    by_cases hjq : j = q
    · subst hjq
      rw [if_pos rfl, ng13 (5 + j) 0 (by omega), ng7 (5 + j) 0 (by omega), eg2]
      omega
    · rw [if_neg hjq, ng13 (5 + j) 0 (by omega), ng7 (5 + j) 0 (by omega), ng2 (5 + j) 0 (by omega)]
  exact hp_vret hx hb hK hN hW hlocks hJ hr ⟨P14, hg_k.ofp hG P14 (by omega) (by omega) (by omega) (fun j hj => by rw [hu j hj]; split <;> first | omega | exact hG7 j hj), by omega, hu⟩ dX4_goUp_15
theorem iX4_goDown_X4 : ∀ w ∈ wsX40, w ∈ wsX4_goDown := fun _ h => List.mem_cons_of_mem _ (List.mem_append_right _ h)
set_option maxRecDepth 100000 in
set_option maxHeartbeats 4000000 in
theorem c_X4_goDown (l : Launch) (dC : Nat → ClassId) (dI : Nat → Nat → Nat) (dA : Nat → ClassId) (κ : Nat → Nat) (B : Nat) (g : Nat → Nat → Int) (q : Nat) (hq : q < 4) (h0 : Nat) (k0 : κ h0 = 5 + q) (hG : hg_k g) : Met l yX4_goDown wsX4_goDown ({ frames := 0, cells := 0, slots := 0, locals := 0 } : Room) (hp_Pre dC dI dA κ B g [Value.ref h0]) (hp_Qv dC dI dA κ B (fun u => hg_P hx_C g u ∧ hg_k u ∧ u 1 1 = g 1 1 ∧ ∀ j : Nat, j < 4 → u (5 + j) 0 = if j = q then 0 else g (5 + j) 0)) 0 0 (hp_A B) := by
  refine Met.ofW (cc := cX4_goDown) (maxL := 1) (ret := none) (by decide) rfl ?_
  intro p e s m args below meth c s₁ Bd hml hv
  obtain ⟨rfl, hK, hN, hW, hF⟩ := hv
  have hx := Bd.exec
  have hb := Bd.bytes
  have hr := Bd.returns
  have hts := atoms_spec (ws := wsX4_goDown) Bd.pre
  have hown : s.vm.findClass RX4 = some m.cls := findClass_of_methodNamed Bd.named
  have hlocks := Bd.notSynchronized
  have hJ : hp_J dC dI dA κ B g s.heap s.heap [] := ⟨hF, va_S.rf⟩
  have hl := lv_entry ([Value.ref h0]) (n := 1) (Nat.le_of_ble_eq_true rfl)
  rw [lg_entry_eq]
  generalize (lg_sl ([Value.ref h0]) ++ List.replicate (1 - (lg_sl ([Value.ref h0])).length) Slot.unset).toArray = ls at hl ⊢
  have hl : lv_has ls 1 [(0, .ref h0)] := hl
  obtain ⟨hG1, hG2, hG3, hG4, hG5, hG6, hG7, hG8⟩ := id hG
  refine lv_aload_n hx hb dX4_goDown_0 rfl (lv_at hl 0 rfl) ?_
  refine hq_iconst hx hb dX4_goDown_1 (by decide) (by decide) (fun z1 ez1 => ?_)
  refine hp_putx (C := RX4) (T := TX4) (N := 6) (ci := 4) (kd := 5 + q) hx hb hts iX4_goDown_X4 hown hK hJ k0 (hk_t5 hq) rfl 0 (by decide) (hts (.fieldLink RX4 9 "NeighborBook$Port" "up" "Z") (List.mem_of_getElem? (i := 1) rfl)) (fun _ h9 => h9) tyX4 tyX4_ok nmX4 (x := z1) (hi_bool (by omega)) (hi_fz (by omega)) (by omega) hW rfl (hk_x5 hq) (hk_s5 hq (by decide)) dX4_goDown_2 (fun g2 H locs eg2 ng2 hJ => ?_)
  have eg2 : g2 (5 + q) 0 = z1.toInt := eg2
  have P3 : hg_P hx_C g g2 := hg_P.put hg_P.rf ng2 (hx_C5 hq)
  have tt4 : g2 1 1 = g 1 1 := ng2 1 1 (by omega)
  have tt5 : g2 10 1 = g 10 1 := ng2 10 1 (by omega)
  have tt6 : g2 4 1 = g 4 1 := ng2 4 1 (by omega)
  refine lv_aload_n hx hb dX4_goDown_5 rfl (lv_at hl 0 rfl) ?_
  refine hq_iconst hx hb dX4_goDown_6 (by decide) (by decide) (fun z7 ez7 => ?_)
  refine hp_putx (C := RX4) (T := TX4) (N := 6) (ci := 4) (kd := 5 + q) hx hb hts iX4_goDown_X4 hown hK hJ k0 (hk_t5 hq) rfl 1 (by decide) (hts (.fieldLink RX4 19 "NeighborBook$Port" "waitLeft" "I") (List.mem_of_getElem? (i := 2) rfl)) (fun _ h9 => h9) tyX4 tyX4_ok nmX4 (x := z7) rfl rfl (by omega) hW rfl (hk_x5 hq) (hk_s5 hq (by decide)) dX4_goDown_7 (fun g8 H locs eg8 ng8 hJ => ?_)
  have eg8 : g8 (5 + q) 1 = z7.toInt := eg8
  have P9 : hg_P hx_C g g8 := hg_P.put P3 ng8 (hx_C5 hq)
  have tt10 : g8 1 1 = g2 1 1 := ng8 1 1 (by omega)
  have tt11 : g8 10 1 = g2 10 1 := ng8 10 1 (by omega)
  have tt12 : g8 4 1 = g2 4 1 := ng8 4 1 (by omega)
  refine lv_aload_n hx hb dX4_goDown_10 rfl (lv_at hl 0 rfl) ?_
  refine lv_dup hx hb dX4_goDown_11 rfl ?_
  refine hp_geti (C := RX4) (T := TX4) (N := 6) (ci := 4) (kd := 5 + q) hx hb hts iX4_goDown_X4 hown hK hJ k0 (hk_t5 hq) rfl 3 (by decide) (hts (.fieldLink RX4 22 "NeighborBook$Port" "framesSent" "I") (List.mem_of_getElem? (i := 3) rfl)) (fun _ h9 => h9) (hk_s5 hq (by decide)) rfl dX4_goDown_12 (fun x13 ex13 => ?_)
  have ex13 : x13.toInt = g8 (5 + q) 3 := ex13
  refine hq_iconst hx hb dX4_goDown_15 (by decide) (by decide) (fun z14 ez14 => ?_)
  refine hq_iaddU hx hb dX4_goDown_16 (fun x15 => ?_)
  refine hp_putx (C := RX4) (T := TX4) (N := 6) (ci := 4) (kd := 5 + q) hx hb hts iX4_goDown_X4 hown hK hJ k0 (hk_t5 hq) rfl 3 (by decide) (hts (.fieldLink RX4 22 "NeighborBook$Port" "framesSent" "I") (List.mem_of_getElem? (i := 3) rfl)) (fun _ h9 => h9) tyX4 tyX4_ok nmX4 (x := x15) rfl rfl (by omega) hW rfl (hk_x5 hq) (hk_s5 hq (by decide)) dX4_goDown_17 (fun g16 H locs eg16 ng16 hJ => ?_)
  have eg16 : g16 (5 + q) 3 = x15.toInt := eg16
  have P17 : hg_P hx_C g g16 := hg_P.put P9 ng16 (hx_C5 hq)
  have tt18 : g16 1 1 = g8 1 1 := ng16 1 1 (by omega)
  have tt19 : g16 10 1 = g8 10 1 := ng16 10 1 (by omega)
  have tt20 : g16 4 1 = g8 4 1 := ng16 4 1 (by omega)
  have hu : ∀ j : Nat, j < 4 → g16 (5 + j) 0 = if j = q then 0 else g (5 + j) 0 := by
    intro j hj
    by_cases hjq : j = q
    · subst hjq
      rw [if_pos rfl, ng16 (5 + j) 0 (by omega), ng8 (5 + j) 0 (by omega), eg2]
      omega
    · rw [if_neg hjq, ng16 (5 + j) 0 (by omega), ng8 (5 + j) 0 (by omega), ng2 (5 + j) 0 (by omega)]
  exact hp_vret hx hb hK hN hW hlocks hJ hr ⟨P17, hg_k.ofp hG P17 (by omega) (by omega) (by omega) (fun j hj => by rw [hu j hj]; split <;> first | omega | exact hG7 j hj), by omega, hu⟩ dX4_goDown_20
theorem iX4_hurry_X4 : ∀ w ∈ wsX40, w ∈ wsX4_hurry := fun _ h => List.mem_cons_of_mem _ (List.mem_append_right _ h)
set_option maxRecDepth 100000 in
set_option maxHeartbeats 4000000 in
theorem c_X4_hurry (l : Launch) (dC : Nat → ClassId) (dI : Nat → Nat → Nat) (dA : Nat → ClassId) (κ : Nat → Nat) (B : Nat) (g : Nat → Nat → Int) (q : Nat) (hq : q < 4) (h0 : Nat) (k0 : κ h0 = 5 + q) (hG : hg_k g) : Met l yX4_hurry wsX4_hurry ({ frames := 0, cells := 0, slots := 0, locals := 0 } : Room) (hp_Pre dC dI dA κ B g [Value.ref h0]) (hp_Qv dC dI dA κ B (fun u => hg_P hx_c g u ∧ hg_k u)) 0 0 (hp_A B) := by
  refine Met.ofW (cc := cX4_hurry) (maxL := 1) (ret := none) (by decide) rfl ?_
  intro p e s m args below meth c s₁ Bd hml hv
  obtain ⟨rfl, hK, hN, hW, hF⟩ := hv
  have hx := Bd.exec
  have hb := Bd.bytes
  have hr := Bd.returns
  have hts := atoms_spec (ws := wsX4_hurry) Bd.pre
  have hown : s.vm.findClass RX4 = some m.cls := findClass_of_methodNamed Bd.named
  have hlocks := Bd.notSynchronized
  have hJ : hp_J dC dI dA κ B g s.heap s.heap [] := ⟨hF, va_S.rf⟩
  have hl := lv_entry ([Value.ref h0]) (n := 1) (Nat.le_of_ble_eq_true rfl)
  rw [lg_entry_eq]
  generalize (lg_sl ([Value.ref h0]) ++ List.replicate (1 - (lg_sl ([Value.ref h0])).length) Slot.unset).toArray = ls at hl ⊢
  have hl : lv_has ls 1 [(0, .ref h0)] := hl
  obtain ⟨hG1, hG2, hG3, hG4, hG5, hG6, hG7, hG8⟩ := id hG
  refine lv_aload_n hx hb dX4_hurry_0 rfl (lv_at hl 0 rfl) ?_
  refine hp_geti (C := RX4) (T := TX4) (N := 6) (ci := 4) (kd := 5 + q) hx hb hts iX4_hurry_X4 hown hK hJ k0 (hk_t5 hq) rfl 0 (by decide) (hts (.fieldLink RX4 9 "NeighborBook$Port" "up" "Z") (List.mem_of_getElem? (i := 1) rfl)) (fun _ h9 => h9) (hk_s5 hq (by decide)) rfl dX4_hurry_1 (fun x1 ex1 => ?_)
  have ex1 : x1.toInt = g (5 + q) 0 := ex1
  refine hq_if_eq (tgt := 12) hx hb dX4_hurry_4 (by decide) (fun c2 => ?_) (fun c2 => ?_)
  · exact hp_vret hx hb hK hN hW hlocks hJ hr ⟨hg_P.rf, hG⟩ dX4_hurry_12
  · refine lv_aload_n hx hb dX4_hurry_7 rfl (lv_at hl 0 rfl) ?_
    refine hq_iconst hx hb dX4_hurry_8 (by decide) (by decide) (fun z3 ez3 => ?_)
    refine hp_putx (C := RX4) (T := TX4) (N := 6) (ci := 4) (kd := 5 + q) hx hb hts iX4_hurry_X4 hown hK hJ k0 (hk_t5 hq) rfl 1 (by decide) (hts (.fieldLink RX4 19 "NeighborBook$Port" "waitLeft" "I") (List.mem_of_getElem? (i := 2) rfl)) (fun _ h9 => h9) tyX4 tyX4_ok nmX4 (x := z3) rfl rfl (by omega) hW rfl (hk_x5 hq) (hk_s5 hq (by decide)) dX4_hurry_9 (fun g4 H locs eg4 ng4 hJ => ?_)
    have eg4 : g4 (5 + q) 1 = z3.toInt := eg4
    have P5 : hg_P hx_c g g4 := hg_P.put hg_P.rf ng4 (hx_c5 hq (by decide))
    have tt6 : g4 1 1 = g 1 1 := ng4 1 1 (by omega)
    have tt7 : g4 10 1 = g 10 1 := ng4 10 1 (by omega)
    have tt8 : g4 4 1 = g 4 1 := ng4 4 1 (by omega)
    exact hp_vret hx hb hK hN hW hlocks hJ hr ⟨P5, (hg_k.ofc hG P5 (by constructor <;> omega) (by constructor <;> omega) )⟩ dX4_hurry_12
theorem iX4_greet_X4 : ∀ w ∈ wsX40, w ∈ wsX4_greet := fun _ h => List.mem_cons_of_mem _ (List.mem_append_right _ h)
set_option maxRecDepth 100000 in
set_option maxHeartbeats 4000000 in
theorem c_X4_greet (l : Launch) (dC : Nat → ClassId) (dI : Nat → Nat → Nat) (dA : Nat → ClassId) (κ : Nat → Nat) (B : Nat) (g : Nat → Nat → Int) (q : Nat) (hq : q < 4) (h0 : Nat) (k0 : κ h0 = 5 + q) (quick : Int32) (hG : hg_k g) : Met l yX4_greet wsX4_greet ({ frames := 1, cells := 0, slots := 0, locals := 16 } : Room) (hp_Pre dC dI dA κ B g [Value.ref h0, Value.int quick]) (hp_Qv dC dI dA κ B (fun u => hg_P hx_c g u ∧ hg_k u)) 0 0 (hp_A B) := by
  refine Met.ofW (cc := cX4_greet) (maxL := 2) (ret := none) (by decide) rfl ?_
  intro p e s m args below meth c s₁ Bd hml hv
  obtain ⟨rfl, hK, hN, hW, hF⟩ := hv
  have hx := Bd.exec
  have hb := Bd.bytes
  have hr := Bd.returns
  have hts := atoms_spec (ws := wsX4_greet) Bd.pre
  have hown : s.vm.findClass RX4 = some m.cls := findClass_of_methodNamed Bd.named
  have hlocks := Bd.notSynchronized
  have hJ : hp_J dC dI dA κ B g s.heap s.heap [] := ⟨hF, va_S.rf⟩
  have hl := lv_entry ([Value.ref h0, Value.int quick]) (n := 2) (Nat.le_of_ble_eq_true rfl)
  rw [lg_entry_eq]
  generalize (lg_sl ([Value.ref h0, Value.int quick]) ++ List.replicate (2 - (lg_sl ([Value.ref h0, Value.int quick])).length) Slot.unset).toArray = ls at hl ⊢
  have hl : lv_has ls 2 [(0, .ref h0), (1, .int quick)] := hl
  obtain ⟨hG1, hG2, hG3, hG4, hG5, hG6, hG7, hG8⟩ := id hG
  refine lv_aload_n hx hb dX4_greet_0 rfl (lv_at hl 0 rfl) ?_
  refine lv_aload_n hx hb dX4_greet_1 rfl (lv_at hl 0 rfl) ?_
  refine hp_geti (C := RX4) (T := TX4) (N := 6) (ci := 4) (kd := 5 + q) hx hb hts iX4_greet_X4 hown hK hJ k0 (hk_t5 hq) rfl 2 (by decide) (hts (.fieldLink RX4 15 "NeighborBook$Port" "quickLeft" "I") (List.mem_of_getElem? (i := 1) rfl)) (fun _ h9 => h9) (hk_s5 hq (by decide)) rfl dX4_greet_2 (fun x1 ex1 => ?_)
  have ex1 : x1.toInt = g (5 + q) 2 := ex1
  refine lv_iload_n hx hb dX4_greet_5 rfl (lv_at hl 1 rfl) ?_
  refine va_mmax hx hb (hml.trans hl.1.symm) hown (hts (.methodLink RX4 25 Lib.Math.max.name) (List.mem_of_getElem? (i := 2) rfl)) (hts (.static Lib.Math.max.name) (List.mem_of_getElem? (i := 3) rfl)) (hts (.initialized "java/lang/Math") (List.mem_of_getElem? (i := 4) rfl)) (hts (.code Lib.Math.max.name Lib.Math.max.code 2 (some .int)) (List.mem_of_getElem? (i := 5) rfl)) (Nat.le_of_ble_eq_true rfl) (Nat.le_of_ble_eq_true rfl) (Nat.zero_le _) (Nat.zero_le _) dX4_greet_6 ?_
  refine lv_topi (fun x2 _ => ?_)
  refine hp_putx (C := RX4) (T := TX4) (N := 6) (ci := 4) (kd := 5 + q) hx hb hts iX4_greet_X4 hown hK hJ k0 (hk_t5 hq) rfl 2 (by decide) (hts (.fieldLink RX4 15 "NeighborBook$Port" "quickLeft" "I") (List.mem_of_getElem? (i := 1) rfl)) (fun _ h9 => h9) tyX4 tyX4_ok nmX4 (x := x2) rfl rfl (by omega) hW rfl (hk_x5 hq) (hk_s5 hq (by decide)) dX4_greet_9 (fun g3 H locs eg3 ng3 hJ => ?_)
  have eg3 : g3 (5 + q) 2 = x2.toInt := eg3
  have P4 : hg_P hx_c g g3 := hg_P.put hg_P.rf ng3 (hx_c5 hq (by decide))
  have tt5 : g3 1 1 = g 1 1 := ng3 1 1 (by omega)
  have tt6 : g3 10 1 = g 10 1 := ng3 10 1 (by omega)
  have tt7 : g3 4 1 = g 4 1 := ng3 4 1 (by omega)
  refine lv_aload_n hx hb dX4_greet_12 rfl (lv_at hl 0 rfl) ?_
  refine hq_iconst hx hb dX4_greet_13 (by decide) (by decide) (fun z8 ez8 => ?_)
  refine hp_putx (C := RX4) (T := TX4) (N := 6) (ci := 4) (kd := 5 + q) hx hb hts iX4_greet_X4 hown hK hJ k0 (hk_t5 hq) rfl 1 (by decide) (hts (.fieldLink RX4 19 "NeighborBook$Port" "waitLeft" "I") (List.mem_of_getElem? (i := 6) rfl)) (fun _ h9 => h9) tyX4 tyX4_ok nmX4 (x := z8) rfl rfl (by omega) hW rfl (hk_x5 hq) (hk_s5 hq (by decide)) dX4_greet_14 (fun g9 H locs eg9 ng9 hJ => ?_)
  have eg9 : g9 (5 + q) 1 = z8.toInt := eg9
  have P10 : hg_P hx_c g g9 := hg_P.put P4 ng9 (hx_c5 hq (by decide))
  have tt11 : g9 1 1 = g3 1 1 := ng9 1 1 (by omega)
  have tt12 : g9 10 1 = g3 10 1 := ng9 10 1 (by omega)
  have tt13 : g9 4 1 = g3 4 1 := ng9 4 1 (by omega)
  exact hp_vret hx hb hK hN hW hlocks hJ hr ⟨P10, (hg_k.ofc hG P10 (by constructor <;> omega) (by constructor <;> omega) )⟩ dX4_greet_17
theorem iX4_noteHeard_X4 : ∀ w ∈ wsX40, w ∈ wsX4_noteHeard := fun _ h => List.mem_cons_of_mem _ (List.mem_append_right _ h)
set_option maxRecDepth 100000 in
set_option maxHeartbeats 4000000 in
theorem c_X4_noteHeard (l : Launch) (dC : Nat → ClassId) (dI : Nat → Nat → Nat) (dA : Nat → ClassId) (κ : Nat → Nat) (B : Nat) (g : Nat → Nat → Int) (q : Nat) (hq : q < 4) (h0 : Nat) (k0 : κ h0 = 5 + q) (well : Int32) (hG : hg_k g) : Met l yX4_noteHeard wsX4_noteHeard ({ frames := 0, cells := 0, slots := 0, locals := 0 } : Room) (hp_Pre dC dI dA κ B g [Value.ref h0, Value.int well]) (hp_Qv dC dI dA κ B (fun u => hg_P hx_c g u ∧ hg_k u)) 0 0 (hp_A B) := by
  refine Met.ofW (cc := cX4_noteHeard) (maxL := 2) (ret := none) (by decide) rfl ?_
  intro p e s m args below meth c s₁ Bd hml hv
  obtain ⟨rfl, hK, hN, hW, hF⟩ := hv
  have hx := Bd.exec
  have hb := Bd.bytes
  have hr := Bd.returns
  have hts := atoms_spec (ws := wsX4_noteHeard) Bd.pre
  have hown : s.vm.findClass RX4 = some m.cls := findClass_of_methodNamed Bd.named
  have hlocks := Bd.notSynchronized
  have hJ : hp_J dC dI dA κ B g s.heap s.heap [] := ⟨hF, va_S.rf⟩
  have hl := lv_entry ([Value.ref h0, Value.int well]) (n := 2) (Nat.le_of_ble_eq_true rfl)
  rw [lg_entry_eq]
  generalize (lg_sl ([Value.ref h0, Value.int well]) ++ List.replicate (2 - (lg_sl ([Value.ref h0, Value.int well])).length) Slot.unset).toArray = ls at hl ⊢
  have hl : lv_has ls 2 [(0, .ref h0), (1, .int well)] := hl
  obtain ⟨hG1, hG2, hG3, hG4, hG5, hG6, hG7, hG8⟩ := id hG
  refine lv_iload_n hx hb dX4_noteHeard_0 rfl (lv_at hl 1 rfl) ?_
  refine hq_if_eq (tgt := 17) hx hb dX4_noteHeard_1 (by decide) (fun c1 => ?_) (fun c1 => ?_)
  · refine lv_aload_n hx hb dX4_noteHeard_17 rfl (lv_at hl 0 rfl) ?_
    refine lv_dup hx hb dX4_noteHeard_18 rfl ?_
    refine hp_geti (C := RX4) (T := TX4) (N := 6) (ci := 4) (kd := 5 + q) hx hb hts iX4_noteHeard_X4 hown hK hJ k0 (hk_t5 hq) rfl 5 (by decide) (hts (.fieldLink RX4 34 "NeighborBook$Port" "heardFaulty" "I") (List.mem_of_getElem? (i := 2) rfl)) (fun _ h9 => h9) (hk_s5 hq (by decide)) rfl dX4_noteHeard_19 (fun x2 ex2 => ?_)
    have ex2 : x2.toInt = g (5 + q) 5 := ex2
    refine hq_iconst hx hb dX4_noteHeard_22 (by decide) (by decide) (fun z3 ez3 => ?_)
    refine hq_iaddU hx hb dX4_noteHeard_23 (fun x4 => ?_)
    refine hp_putx (C := RX4) (T := TX4) (N := 6) (ci := 4) (kd := 5 + q) hx hb hts iX4_noteHeard_X4 hown hK hJ k0 (hk_t5 hq) rfl 5 (by decide) (hts (.fieldLink RX4 34 "NeighborBook$Port" "heardFaulty" "I") (List.mem_of_getElem? (i := 2) rfl)) (fun _ h9 => h9) tyX4 tyX4_ok nmX4 (x := x4) rfl rfl (by omega) hW rfl (hk_x5 hq) (hk_s5 hq (by decide)) dX4_noteHeard_24 (fun g5 H locs eg5 ng5 hJ => ?_)
    have eg5 : g5 (5 + q) 5 = x4.toInt := eg5
    have P6 : hg_P hx_c g g5 := hg_P.put hg_P.rf ng5 (hx_c5 hq (by decide))
    have tt7 : g5 1 1 = g 1 1 := ng5 1 1 (by omega)
    have tt8 : g5 10 1 = g 10 1 := ng5 10 1 (by omega)
    have tt9 : g5 4 1 = g 4 1 := ng5 4 1 (by omega)
    exact hp_vret hx hb hK hN hW hlocks hJ hr ⟨P6, (hg_k.ofc hG P6 (by constructor <;> omega) (by constructor <;> omega) )⟩ dX4_noteHeard_27
  · refine lv_aload_n hx hb dX4_noteHeard_4 rfl (lv_at hl 0 rfl) ?_
    refine lv_dup hx hb dX4_noteHeard_5 rfl ?_
    refine hp_geti (C := RX4) (T := TX4) (N := 6) (ci := 4) (kd := 5 + q) hx hb hts iX4_noteHeard_X4 hown hK hJ k0 (hk_t5 hq) rfl 4 (by decide) (hts (.fieldLink RX4 31 "NeighborBook$Port" "heardWell" "I") (List.mem_of_getElem? (i := 1) rfl)) (fun _ h9 => h9) (hk_s5 hq (by decide)) rfl dX4_noteHeard_6 (fun x10 ex10 => ?_)
    have ex10 : x10.toInt = g (5 + q) 4 := ex10
    refine hq_iconst hx hb dX4_noteHeard_9 (by decide) (by decide) (fun z11 ez11 => ?_)
    refine hq_iaddU hx hb dX4_noteHeard_10 (fun x12 => ?_)
    refine hp_putx (C := RX4) (T := TX4) (N := 6) (ci := 4) (kd := 5 + q) hx hb hts iX4_noteHeard_X4 hown hK hJ k0 (hk_t5 hq) rfl 4 (by decide) (hts (.fieldLink RX4 31 "NeighborBook$Port" "heardWell" "I") (List.mem_of_getElem? (i := 1) rfl)) (fun _ h9 => h9) tyX4 tyX4_ok nmX4 (x := x12) rfl rfl (by omega) hW rfl (hk_x5 hq) (hk_s5 hq (by decide)) dX4_noteHeard_11 (fun g13 H locs eg13 ng13 hJ => ?_)
    have eg13 : g13 (5 + q) 4 = x12.toInt := eg13
    have P14 : hg_P hx_c g g13 := hg_P.put hg_P.rf ng13 (hx_c5 hq (by decide))
    have tt15 : g13 1 1 = g 1 1 := ng13 1 1 (by omega)
    have tt16 : g13 10 1 = g 10 1 := ng13 10 1 (by omega)
    have tt17 : g13 4 1 = g 4 1 := ng13 4 1 (by omega)
    refine lv_goto (tgt := 27) hx hb dX4_noteHeard_14 (by decide) ?_
    exact hp_vret hx hb hK hN hW hlocks hJ hr ⟨P14, (hg_k.ofc hG P14 (by constructor <;> omega) (by constructor <;> omega) )⟩ dX4_noteHeard_27
theorem iX4_passTick_X4 : ∀ w ∈ wsX40, w ∈ wsX4_passTick := fun _ h => List.mem_cons_of_mem _ (List.mem_append_right _ h)
set_option maxRecDepth 100000 in
set_option maxHeartbeats 4000000 in
theorem c_X4_passTick (l : Launch) (dC : Nat → ClassId) (dI : Nat → Nat → Nat) (dA : Nat → ClassId) (κ : Nat → Nat) (B : Nat) (g : Nat → Nat → Int) (q : Nat) (hq : q < 4) (h0 : Nat) (k0 : κ h0 = 5 + q) (interval : Int32) (hG : hg_k g) : Met l yX4_passTick wsX4_passTick ({ frames := 0, cells := 0, slots := 0, locals := 0 } : Room) (hp_Pre dC dI dA κ B g [Value.ref h0, Value.int interval]) (hp_Qi dC dI dA κ B (fun r u => hg_P hx_c g u ∧ hg_k u ∧ (r.toInt = 0 ∨ r.toInt = 1) ∧ (g (5 + q) 0 = 0 → r.toInt = 0 ∧ g = u))) 0 0 (hp_A B) := by
  refine Met.ofW (cc := cX4_passTick) (maxL := 2) (ret := (some .boolean)) (by decide) rfl ?_
  intro p e s m args below meth c s₁ Bd hml hv
  obtain ⟨rfl, hK, hN, hW, hF⟩ := hv
  have hx := Bd.exec
  have hb := Bd.bytes
  have hr := Bd.returns
  have hts := atoms_spec (ws := wsX4_passTick) Bd.pre
  have hown : s.vm.findClass RX4 = some m.cls := findClass_of_methodNamed Bd.named
  have hlocks := Bd.notSynchronized
  have hJ : hp_J dC dI dA κ B g s.heap s.heap [] := ⟨hF, va_S.rf⟩
  have hl := lv_entry ([Value.ref h0, Value.int interval]) (n := 2) (Nat.le_of_ble_eq_true rfl)
  rw [lg_entry_eq]
  generalize (lg_sl ([Value.ref h0, Value.int interval]) ++ List.replicate (2 - (lg_sl ([Value.ref h0, Value.int interval])).length) Slot.unset).toArray = ls at hl ⊢
  have hl : lv_has ls 2 [(0, .ref h0), (1, .int interval)] := hl
  obtain ⟨hG1, hG2, hG3, hG4, hG5, hG6, hG7, hG8⟩ := id hG
  refine lv_aload_n hx hb dX4_passTick_0 rfl (lv_at hl 0 rfl) ?_
  refine hp_geti (C := RX4) (T := TX4) (N := 6) (ci := 4) (kd := 5 + q) hx hb hts iX4_passTick_X4 hown hK hJ k0 (hk_t5 hq) rfl 0 (by decide) (hts (.fieldLink RX4 9 "NeighborBook$Port" "up" "Z") (List.mem_of_getElem? (i := 1) rfl)) (fun _ h9 => h9) (hk_s5 hq (by decide)) rfl dX4_passTick_1 (fun x1 ex1 => ?_)
  have ex1 : x1.toInt = g (5 + q) 0 := ex1
  refine hq_if_ne (tgt := 9) hx hb dX4_passTick_4 (by decide) (fun c2 => ?_) (fun c2 => ?_)
  · refine lv_aload_n hx hb dX4_passTick_9 rfl (lv_at hl 0 rfl) ?_
    refine lv_dup hx hb dX4_passTick_10 rfl ?_
    refine hp_geti (C := RX4) (T := TX4) (N := 6) (ci := 4) (kd := 5 + q) hx hb hts iX4_passTick_X4 hown hK hJ k0 (hk_t5 hq) rfl 1 (by decide) (hts (.fieldLink RX4 19 "NeighborBook$Port" "waitLeft" "I") (List.mem_of_getElem? (i := 2) rfl)) (fun _ h9 => h9) (hk_s5 hq (by decide)) rfl dX4_passTick_11 (fun x3 ex3 => ?_)
    have ex3 : x3.toInt = g (5 + q) 1 := ex3
    refine hq_iconst hx hb dX4_passTick_14 (by decide) (by decide) (fun z4 ez4 => ?_)
    refine hq_isubU hx hb dX4_passTick_15 (fun x5 => ?_)
    refine hp_putx (C := RX4) (T := TX4) (N := 6) (ci := 4) (kd := 5 + q) hx hb hts iX4_passTick_X4 hown hK hJ k0 (hk_t5 hq) rfl 1 (by decide) (hts (.fieldLink RX4 19 "NeighborBook$Port" "waitLeft" "I") (List.mem_of_getElem? (i := 2) rfl)) (fun _ h9 => h9) tyX4 tyX4_ok nmX4 (x := x5) rfl rfl (by omega) hW rfl (hk_x5 hq) (hk_s5 hq (by decide)) dX4_passTick_16 (fun g6 H locs eg6 ng6 hJ => ?_)
    have eg6 : g6 (5 + q) 1 = x5.toInt := eg6
    have P7 : hg_P hx_c g g6 := hg_P.put hg_P.rf ng6 (hx_c5 hq (by decide))
    have tt8 : g6 1 1 = g 1 1 := ng6 1 1 (by omega)
    have tt9 : g6 10 1 = g 10 1 := ng6 10 1 (by omega)
    have tt10 : g6 4 1 = g 4 1 := ng6 4 1 (by omega)
    refine lv_aload_n hx hb dX4_passTick_19 rfl (lv_at hl 0 rfl) ?_
    refine hp_geti (C := RX4) (T := TX4) (N := 6) (ci := 4) (kd := 5 + q) hx hb hts iX4_passTick_X4 hown hK hJ k0 (hk_t5 hq) rfl 1 (by decide) (hts (.fieldLink RX4 19 "NeighborBook$Port" "waitLeft" "I") (List.mem_of_getElem? (i := 2) rfl)) (fun _ h9 => h9) (hk_s5 hq (by decide)) rfl dX4_passTick_20 (fun x11 ex11 => ?_)
    have ex11 : x11.toInt = g6 (5 + q) 1 := ex11
    refine hq_if_le (tgt := 28) hx hb dX4_passTick_23 (by decide) (fun c12 => ?_) (fun c12 => ?_)
    · refine lv_aload_n hx hb dX4_passTick_28 rfl (lv_at hl 0 rfl) ?_
      refine lv_dup hx hb dX4_passTick_29 rfl ?_
      refine hp_geti (C := RX4) (T := TX4) (N := 6) (ci := 4) (kd := 5 + q) hx hb hts iX4_passTick_X4 hown hK hJ k0 (hk_t5 hq) rfl 3 (by decide) (hts (.fieldLink RX4 22 "NeighborBook$Port" "framesSent" "I") (List.mem_of_getElem? (i := 3) rfl)) (fun _ h9 => h9) (hk_s5 hq (by decide)) rfl dX4_passTick_30 (fun x13 ex13 => ?_)
      have ex13 : x13.toInt = g6 (5 + q) 3 := ex13
      refine hq_iconst hx hb dX4_passTick_33 (by decide) (by decide) (fun z14 ez14 => ?_)
      refine hq_iaddU hx hb dX4_passTick_34 (fun x15 => ?_)
      refine hp_putx (C := RX4) (T := TX4) (N := 6) (ci := 4) (kd := 5 + q) hx hb hts iX4_passTick_X4 hown hK hJ k0 (hk_t5 hq) rfl 3 (by decide) (hts (.fieldLink RX4 22 "NeighborBook$Port" "framesSent" "I") (List.mem_of_getElem? (i := 3) rfl)) (fun _ h9 => h9) tyX4 tyX4_ok nmX4 (x := x15) rfl rfl (by omega) hW rfl (hk_x5 hq) (hk_s5 hq (by decide)) dX4_passTick_35 (fun g16 H locs eg16 ng16 hJ => ?_)
      have eg16 : g16 (5 + q) 3 = x15.toInt := eg16
      have P17 : hg_P hx_c g g16 := hg_P.put P7 ng16 (hx_c5 hq (by decide))
      have tt18 : g16 1 1 = g6 1 1 := ng16 1 1 (by omega)
      have tt19 : g16 10 1 = g6 10 1 := ng16 10 1 (by omega)
      have tt20 : g16 4 1 = g6 4 1 := ng16 4 1 (by omega)
      refine lv_aload_n hx hb dX4_passTick_38 rfl (lv_at hl 0 rfl) ?_
      refine hp_geti (C := RX4) (T := TX4) (N := 6) (ci := 4) (kd := 5 + q) hx hb hts iX4_passTick_X4 hown hK hJ k0 (hk_t5 hq) rfl 2 (by decide) (hts (.fieldLink RX4 15 "NeighborBook$Port" "quickLeft" "I") (List.mem_of_getElem? (i := 4) rfl)) (fun _ h9 => h9) (hk_s5 hq (by decide)) rfl dX4_passTick_39 (fun x21 ex21 => ?_)
      have ex21 : x21.toInt = g16 (5 + q) 2 := ex21
      refine hq_if_le (tgt := 55) hx hb dX4_passTick_42 (by decide) (fun c22 => ?_) (fun c22 => ?_)
      · refine lv_aload_n hx hb dX4_passTick_55 rfl (lv_at hl 0 rfl) ?_
        refine lv_aload_n hx hb dX4_passTick_56 rfl (lv_at hl 0 rfl) ?_
        refine hp_geti (C := RX4) (T := TX4) (N := 6) (ci := 4) (kd := 5 + q) hx hb hts iX4_passTick_X4 hown hK hJ k0 (hk_t5 hq) rfl 2 (by decide) (hts (.fieldLink RX4 15 "NeighborBook$Port" "quickLeft" "I") (List.mem_of_getElem? (i := 4) rfl)) (fun _ h9 => h9) (hk_s5 hq (by decide)) rfl dX4_passTick_57 (fun x23 ex23 => ?_)
        have ex23 : x23.toInt = g16 (5 + q) 2 := ex23
        refine hq_if_le (tgt := 67) hx hb dX4_passTick_60 (by decide) (fun c24 => ?_) (fun c24 => ?_)
        · refine lv_iload_n hx hb dX4_passTick_67 rfl (lv_at hl 1 rfl) ?_
          refine hp_putx (C := RX4) (T := TX4) (N := 6) (ci := 4) (kd := 5 + q) hx hb hts iX4_passTick_X4 hown hK hJ k0 (hk_t5 hq) rfl 1 (by decide) (hts (.fieldLink RX4 19 "NeighborBook$Port" "waitLeft" "I") (List.mem_of_getElem? (i := 2) rfl)) (fun _ h9 => h9) tyX4 tyX4_ok nmX4 (x := interval) rfl rfl (by omega) hW rfl (hk_x5 hq) (hk_s5 hq (by decide)) dX4_passTick_68 (fun g25 H locs eg25 ng25 hJ => ?_)
          have eg25 : g25 (5 + q) 1 = interval.toInt := eg25
          have P26 : hg_P hx_c g g25 := hg_P.put P17 ng25 (hx_c5 hq (by decide))
          have tt27 : g25 1 1 = g16 1 1 := ng25 1 1 (by omega)
          have tt28 : g25 10 1 = g16 10 1 := ng25 10 1 (by omega)
          have tt29 : g25 4 1 = g16 4 1 := ng25 4 1 (by omega)
          refine hq_iconst hx hb dX4_passTick_71 (by decide) (by decide) (fun z30 ez30 => ?_)
          exact hp_zret hx hb hK hN hW hlocks hJ hr (by omega) ⟨P26, (hg_k.ofc hG P26 (by constructor <;> omega) (by constructor <;> omega) ), by omega, fun h9 => by first | exact ⟨by omega, rfl⟩ | (exfalso; omega)⟩ dX4_passTick_72
        · refine hq_iconst hx hb dX4_passTick_63 (by decide) (by decide) (fun z31 ez31 => ?_)
          refine lv_goto (tgt := 68) hx hb dX4_passTick_64 (by decide) ?_
          refine hp_putx (C := RX4) (T := TX4) (N := 6) (ci := 4) (kd := 5 + q) hx hb hts iX4_passTick_X4 hown hK hJ k0 (hk_t5 hq) rfl 1 (by decide) (hts (.fieldLink RX4 19 "NeighborBook$Port" "waitLeft" "I") (List.mem_of_getElem? (i := 2) rfl)) (fun _ h9 => h9) tyX4 tyX4_ok nmX4 (x := z31) rfl rfl (by omega) hW rfl (hk_x5 hq) (hk_s5 hq (by decide)) dX4_passTick_68 (fun g32 H locs eg32 ng32 hJ => ?_)
          have eg32 : g32 (5 + q) 1 = z31.toInt := eg32
          have P33 : hg_P hx_c g g32 := hg_P.put P17 ng32 (hx_c5 hq (by decide))
          have tt34 : g32 1 1 = g16 1 1 := ng32 1 1 (by omega)
          have tt35 : g32 10 1 = g16 10 1 := ng32 10 1 (by omega)
          have tt36 : g32 4 1 = g16 4 1 := ng32 4 1 (by omega)
          refine hq_iconst hx hb dX4_passTick_71 (by decide) (by decide) (fun z37 ez37 => ?_)
          exact hp_zret hx hb hK hN hW hlocks hJ hr (by omega) ⟨P33, (hg_k.ofc hG P33 (by constructor <;> omega) (by constructor <;> omega) ), by omega, fun h9 => by first | exact ⟨by omega, rfl⟩ | (exfalso; omega)⟩ dX4_passTick_72
      · refine lv_aload_n hx hb dX4_passTick_45 rfl (lv_at hl 0 rfl) ?_
        refine lv_dup hx hb dX4_passTick_46 rfl ?_
        refine hp_geti (C := RX4) (T := TX4) (N := 6) (ci := 4) (kd := 5 + q) hx hb hts iX4_passTick_X4 hown hK hJ k0 (hk_t5 hq) rfl 2 (by decide) (hts (.fieldLink RX4 15 "NeighborBook$Port" "quickLeft" "I") (List.mem_of_getElem? (i := 4) rfl)) (fun _ h9 => h9) (hk_s5 hq (by decide)) rfl dX4_passTick_47 (fun x38 ex38 => ?_)
        have ex38 : x38.toInt = g16 (5 + q) 2 := ex38
        refine hq_iconst hx hb dX4_passTick_50 (by decide) (by decide) (fun z39 ez39 => ?_)
        refine hq_isubU hx hb dX4_passTick_51 (fun x40 => ?_)
        refine hp_putx (C := RX4) (T := TX4) (N := 6) (ci := 4) (kd := 5 + q) hx hb hts iX4_passTick_X4 hown hK hJ k0 (hk_t5 hq) rfl 2 (by decide) (hts (.fieldLink RX4 15 "NeighborBook$Port" "quickLeft" "I") (List.mem_of_getElem? (i := 4) rfl)) (fun _ h9 => h9) tyX4 tyX4_ok nmX4 (x := x40) rfl rfl (by omega) hW rfl (hk_x5 hq) (hk_s5 hq (by decide)) dX4_passTick_52 (fun g41 H locs eg41 ng41 hJ => ?_)
        have eg41 : g41 (5 + q) 2 = x40.toInt := eg41
        have P42 : hg_P hx_c g g41 := hg_P.put P17 ng41 (hx_c5 hq (by decide))
        have tt43 : g41 1 1 = g16 1 1 := ng41 1 1 (by omega)
        have tt44 : g41 10 1 = g16 10 1 := ng41 10 1 (by omega)
        have tt45 : g41 4 1 = g16 4 1 := ng41 4 1 (by omega)
        refine lv_aload_n hx hb dX4_passTick_55 rfl (lv_at hl 0 rfl) ?_
        refine lv_aload_n hx hb dX4_passTick_56 rfl (lv_at hl 0 rfl) ?_
        refine hp_geti (C := RX4) (T := TX4) (N := 6) (ci := 4) (kd := 5 + q) hx hb hts iX4_passTick_X4 hown hK hJ k0 (hk_t5 hq) rfl 2 (by decide) (hts (.fieldLink RX4 15 "NeighborBook$Port" "quickLeft" "I") (List.mem_of_getElem? (i := 4) rfl)) (fun _ h9 => h9) (hk_s5 hq (by decide)) rfl dX4_passTick_57 (fun x46 ex46 => ?_)
        have ex46 : x46.toInt = g41 (5 + q) 2 := ex46
        refine hq_if_le (tgt := 67) hx hb dX4_passTick_60 (by decide) (fun c47 => ?_) (fun c47 => ?_)
        · refine lv_iload_n hx hb dX4_passTick_67 rfl (lv_at hl 1 rfl) ?_
          refine hp_putx (C := RX4) (T := TX4) (N := 6) (ci := 4) (kd := 5 + q) hx hb hts iX4_passTick_X4 hown hK hJ k0 (hk_t5 hq) rfl 1 (by decide) (hts (.fieldLink RX4 19 "NeighborBook$Port" "waitLeft" "I") (List.mem_of_getElem? (i := 2) rfl)) (fun _ h9 => h9) tyX4 tyX4_ok nmX4 (x := interval) rfl rfl (by omega) hW rfl (hk_x5 hq) (hk_s5 hq (by decide)) dX4_passTick_68 (fun g48 H locs eg48 ng48 hJ => ?_)
          have eg48 : g48 (5 + q) 1 = interval.toInt := eg48
          have P49 : hg_P hx_c g g48 := hg_P.put P42 ng48 (hx_c5 hq (by decide))
          have tt50 : g48 1 1 = g41 1 1 := ng48 1 1 (by omega)
          have tt51 : g48 10 1 = g41 10 1 := ng48 10 1 (by omega)
          have tt52 : g48 4 1 = g41 4 1 := ng48 4 1 (by omega)
          refine hq_iconst hx hb dX4_passTick_71 (by decide) (by decide) (fun z53 ez53 => ?_)
          exact hp_zret hx hb hK hN hW hlocks hJ hr (by omega) ⟨P49, (hg_k.ofc hG P49 (by constructor <;> omega) (by constructor <;> omega) ), by omega, fun h9 => by first | exact ⟨by omega, rfl⟩ | (exfalso; omega)⟩ dX4_passTick_72
        · refine hq_iconst hx hb dX4_passTick_63 (by decide) (by decide) (fun z54 ez54 => ?_)
          refine lv_goto (tgt := 68) hx hb dX4_passTick_64 (by decide) ?_
          refine hp_putx (C := RX4) (T := TX4) (N := 6) (ci := 4) (kd := 5 + q) hx hb hts iX4_passTick_X4 hown hK hJ k0 (hk_t5 hq) rfl 1 (by decide) (hts (.fieldLink RX4 19 "NeighborBook$Port" "waitLeft" "I") (List.mem_of_getElem? (i := 2) rfl)) (fun _ h9 => h9) tyX4 tyX4_ok nmX4 (x := z54) rfl rfl (by omega) hW rfl (hk_x5 hq) (hk_s5 hq (by decide)) dX4_passTick_68 (fun g55 H locs eg55 ng55 hJ => ?_)
          have eg55 : g55 (5 + q) 1 = z54.toInt := eg55
          have P56 : hg_P hx_c g g55 := hg_P.put P42 ng55 (hx_c5 hq (by decide))
          have tt57 : g55 1 1 = g41 1 1 := ng55 1 1 (by omega)
          have tt58 : g55 10 1 = g41 10 1 := ng55 10 1 (by omega)
          have tt59 : g55 4 1 = g41 4 1 := ng55 4 1 (by omega)
          refine hq_iconst hx hb dX4_passTick_71 (by decide) (by decide) (fun z60 ez60 => ?_)
          exact hp_zret hx hb hK hN hW hlocks hJ hr (by omega) ⟨P56, (hg_k.ofc hG P56 (by constructor <;> omega) (by constructor <;> omega) ), by omega, fun h9 => by first | exact ⟨by omega, rfl⟩ | (exfalso; omega)⟩ dX4_passTick_72
    · refine hq_iconst hx hb dX4_passTick_26 (by decide) (by decide) (fun z61 ez61 => ?_)
      exact hp_zret hx hb hK hN hW hlocks hJ hr (by omega) ⟨P7, (hg_k.ofc hG P7 (by constructor <;> omega) (by constructor <;> omega) ), by omega, fun h9 => by first | exact ⟨by omega, rfl⟩ | (exfalso; omega)⟩ dX4_passTick_27
  · refine hq_iconst hx hb dX4_passTick_7 (by decide) (by decide) (fun z62 ez62 => ?_)
    exact hp_zret hx hb hK hN hW hlocks hJ hr (by omega) ⟨hg_P.rf, hG, by omega, fun h9 => by first | exact ⟨by omega, rfl⟩ | (exfalso; omega)⟩ dX4_passTick_8
theorem iX4_tellAbout_X4 : ∀ w ∈ wsX40, w ∈ wsX4_tellAbout := fun _ h => List.mem_cons_of_mem _ (List.mem_append_right _ h)
set_option maxRecDepth 100000 in
set_option maxHeartbeats 4000000 in
theorem c_X4_tellAbout (l : Launch) (dC : Nat → ClassId) (dI : Nat → Nat → Nat) (dA : Nat → ClassId) (κ : Nat → Nat) (B : Nat) (g : Nat → Nat → Int) (q : Nat) (hq : q < 4) (h0 : Nat) (k0 : κ h0 = 5 + q) (what : Int32) (hG : hg_k g) : Met l yX4_tellAbout wsX4_tellAbout ({ frames := 0, cells := 0, slots := 0, locals := 0 } : Room) (hp_Pre dC dI dA κ B g [Value.ref h0, Value.int what]) (hp_Qi dC dI dA κ B (fun r u => g = u ∧ ((what.toInt = 0 ∧ r.toInt = g (5 + q) 0) ∨ (what.toInt = 1 ∧ r.toInt = g (5 + q) 3) ∨ (what.toInt = 2 ∧ r.toInt = g (5 + q) 4) ∨ (what.toInt = 3 ∧ r.toInt = g (5 + q) 5) ∨ (what.toInt = 5 ∧ r.toInt = g (5 + q) 1) ∨ (what.toInt = 6 ∧ r.toInt = g (5 + q) 2) ∨ ((what.toInt < 0 ∨ what.toInt = 4 ∨ 6 < what.toInt) ∧ r.toInt = -1)))) 0 0 (hp_A B) := by
  refine Met.ofW (cc := cX4_tellAbout) (maxL := 2) (ret := (some .int)) (by decide) rfl ?_
  intro p e s m args below meth c s₁ Bd hml hv
  obtain ⟨rfl, hK, hN, hW, hF⟩ := hv
  have hx := Bd.exec
  have hb := Bd.bytes
  have hr := Bd.returns
  have hts := atoms_spec (ws := wsX4_tellAbout) Bd.pre
  have hown : s.vm.findClass RX4 = some m.cls := findClass_of_methodNamed Bd.named
  have hlocks := Bd.notSynchronized
  have hJ : hp_J dC dI dA κ B g s.heap s.heap [] := ⟨hF, va_S.rf⟩
  have hl := lv_entry ([Value.ref h0, Value.int what]) (n := 2) (Nat.le_of_ble_eq_true rfl)
  rw [lg_entry_eq]
  generalize (lg_sl ([Value.ref h0, Value.int what]) ++ List.replicate (2 - (lg_sl ([Value.ref h0, Value.int what])).length) Slot.unset).toArray = ls at hl ⊢
  have hl : lv_has ls 2 [(0, .ref h0), (1, .int what)] := hl
  obtain ⟨hG1, hG2, hG3, hG4, hG5, hG6, hG7, hG8⟩ := id hG
  have hGq := hG7 q hq
  refine lv_iload_n hx hb dX4_tellAbout_0 rfl (lv_at hl 1 rfl) ?_
  have h1 : (what.toInt < 0 ∨ 6 < what.toInt) ∨ what.toInt = 0 ∨ what.toInt = 1 ∨ what.toInt = 2 ∨ what.toInt = 3 ∨ what.toInt = 4 ∨ what.toInt = 5 ∨ what.toInt = 6 := by omega
  rcases h1 with h1 | h1 | h1 | h1 | h1 | h1 | h1 | h1
  · refine lv_tableOut (tgt := 82) hx hb dX4_tellAbout_1 h1 (by decide) ?_
    refine hq_iconst hx hb dX4_tellAbout_82 (by decide) (by decide) (fun z2 ez2 => ?_)
    exact hp_iret hx hb hK hN hW hlocks hJ hr ⟨rfl, by omega⟩ dX4_tellAbout_83
  · refine lv_tableIn (off := 43) (tgt := 44) hx hb dX4_tellAbout_1 (by omega) (by omega) (by rw [h1]; rfl) (by decide) ?_
    refine lv_aload_n hx hb dX4_tellAbout_44 rfl (lv_at hl 0 rfl) ?_
    refine hp_geti (C := RX4) (T := TX4) (N := 6) (ci := 4) (kd := 5 + q) hx hb hts iX4_tellAbout_X4 hown hK hJ k0 (hk_t5 hq) rfl 0 (by decide) (hts (.fieldLink RX4 9 "NeighborBook$Port" "up" "Z") (List.mem_of_getElem? (i := 1) rfl)) (fun _ h9 => h9) (hk_s5 hq (by decide)) rfl dX4_tellAbout_45 (fun x3 ex3 => ?_)
    have ex3 : x3.toInt = g (5 + q) 0 := ex3
    refine hq_if_eq (tgt := 55) hx hb dX4_tellAbout_48 (by decide) (fun c4 => ?_) (fun c4 => ?_)
    · refine hq_iconst hx hb dX4_tellAbout_55 (by decide) (by decide) (fun z5 ez5 => ?_)
      exact hp_iret hx hb hK hN hW hlocks hJ hr ⟨rfl, by omega⟩ dX4_tellAbout_56
    · refine hq_iconst hx hb dX4_tellAbout_51 (by decide) (by decide) (fun z6 ez6 => ?_)
      refine lv_goto (tgt := 56) hx hb dX4_tellAbout_52 (by decide) ?_
      exact hp_iret hx hb hK hN hW hlocks hJ hr ⟨rfl, by omega⟩ dX4_tellAbout_56
  · refine lv_tableIn (off := 56) (tgt := 57) hx hb dX4_tellAbout_1 (by omega) (by omega) (by rw [h1]; rfl) (by decide) ?_
    refine lv_aload_n hx hb dX4_tellAbout_57 rfl (lv_at hl 0 rfl) ?_
    refine hp_geti (C := RX4) (T := TX4) (N := 6) (ci := 4) (kd := 5 + q) hx hb hts iX4_tellAbout_X4 hown hK hJ k0 (hk_t5 hq) rfl 3 (by decide) (hts (.fieldLink RX4 22 "NeighborBook$Port" "framesSent" "I") (List.mem_of_getElem? (i := 2) rfl)) (fun _ h9 => h9) (hk_s5 hq (by decide)) rfl dX4_tellAbout_58 (fun x7 ex7 => ?_)
    have ex7 : x7.toInt = g (5 + q) 3 := ex7
    exact hp_iret hx hb hK hN hW hlocks hJ hr ⟨rfl, by omega⟩ dX4_tellAbout_61
  · refine lv_tableIn (off := 61) (tgt := 62) hx hb dX4_tellAbout_1 (by omega) (by omega) (by rw [h1]; rfl) (by decide) ?_
    refine lv_aload_n hx hb dX4_tellAbout_62 rfl (lv_at hl 0 rfl) ?_
    refine hp_geti (C := RX4) (T := TX4) (N := 6) (ci := 4) (kd := 5 + q) hx hb hts iX4_tellAbout_X4 hown hK hJ k0 (hk_t5 hq) rfl 4 (by decide) (hts (.fieldLink RX4 31 "NeighborBook$Port" "heardWell" "I") (List.mem_of_getElem? (i := 3) rfl)) (fun _ h9 => h9) (hk_s5 hq (by decide)) rfl dX4_tellAbout_63 (fun x8 ex8 => ?_)
    have ex8 : x8.toInt = g (5 + q) 4 := ex8
    exact hp_iret hx hb hK hN hW hlocks hJ hr ⟨rfl, by omega⟩ dX4_tellAbout_66
  · refine lv_tableIn (off := 66) (tgt := 67) hx hb dX4_tellAbout_1 (by omega) (by omega) (by rw [h1]; rfl) (by decide) ?_
    refine lv_aload_n hx hb dX4_tellAbout_67 rfl (lv_at hl 0 rfl) ?_
    refine hp_geti (C := RX4) (T := TX4) (N := 6) (ci := 4) (kd := 5 + q) hx hb hts iX4_tellAbout_X4 hown hK hJ k0 (hk_t5 hq) rfl 5 (by decide) (hts (.fieldLink RX4 34 "NeighborBook$Port" "heardFaulty" "I") (List.mem_of_getElem? (i := 4) rfl)) (fun _ h9 => h9) (hk_s5 hq (by decide)) rfl dX4_tellAbout_68 (fun x9 ex9 => ?_)
    have ex9 : x9.toInt = g (5 + q) 5 := ex9
    exact hp_iret hx hb hK hN hW hlocks hJ hr ⟨rfl, by omega⟩ dX4_tellAbout_71
  · refine lv_tableIn (off := 81) (tgt := 82) hx hb dX4_tellAbout_1 (by omega) (by omega) (by rw [h1]; rfl) (by decide) ?_
    refine hq_iconst hx hb dX4_tellAbout_82 (by decide) (by decide) (fun z10 ez10 => ?_)
    exact hp_iret hx hb hK hN hW hlocks hJ hr ⟨rfl, by omega⟩ dX4_tellAbout_83
  · refine lv_tableIn (off := 71) (tgt := 72) hx hb dX4_tellAbout_1 (by omega) (by omega) (by rw [h1]; rfl) (by decide) ?_
    refine lv_aload_n hx hb dX4_tellAbout_72 rfl (lv_at hl 0 rfl) ?_
    refine hp_geti (C := RX4) (T := TX4) (N := 6) (ci := 4) (kd := 5 + q) hx hb hts iX4_tellAbout_X4 hown hK hJ k0 (hk_t5 hq) rfl 1 (by decide) (hts (.fieldLink RX4 19 "NeighborBook$Port" "waitLeft" "I") (List.mem_of_getElem? (i := 5) rfl)) (fun _ h9 => h9) (hk_s5 hq (by decide)) rfl dX4_tellAbout_73 (fun x11 ex11 => ?_)
    have ex11 : x11.toInt = g (5 + q) 1 := ex11
    exact hp_iret hx hb hK hN hW hlocks hJ hr ⟨rfl, by omega⟩ dX4_tellAbout_76
  · refine lv_tableIn (off := 76) (tgt := 77) hx hb dX4_tellAbout_1 (by omega) (by omega) (by rw [h1]; rfl) (by decide) ?_
    refine lv_aload_n hx hb dX4_tellAbout_77 rfl (lv_at hl 0 rfl) ?_
    refine hp_geti (C := RX4) (T := TX4) (N := 6) (ci := 4) (kd := 5 + q) hx hb hts iX4_tellAbout_X4 hown hK hJ k0 (hk_t5 hq) rfl 2 (by decide) (hts (.fieldLink RX4 15 "NeighborBook$Port" "quickLeft" "I") (List.mem_of_getElem? (i := 6) rfl)) (fun _ h9 => h9) (hk_s5 hq (by decide)) rfl dX4_tellAbout_78 (fun x12 ex12 => ?_)
    have ex12 : x12.toInt = g (5 + q) 2 := ex12
    exact hp_iret hx hb hK hN hW hlocks hJ hr ⟨rfl, by omega⟩ dX4_tellAbout_81
end
section
theorem iX5_length_X5 : ∀ w ∈ wsX50, w ∈ wsX5_length := fun _ h => List.mem_cons_of_mem _ (List.mem_append_right _ h)
set_option maxRecDepth 100000 in
set_option maxHeartbeats 4000000 in
theorem c_X5_length (l : Launch) (dC : Nat → ClassId) (dI : Nat → Nat → Nat) (dA : Nat → ClassId) (κ : Nat → Nat) (B : Nat) (g : Nat → Nat → Int) (h0 : Nat) (k0 : κ h0 = 4) : Met l yX5_length wsX5_length ({ frames := 0, cells := 0, slots := 0, locals := 0 } : Room) (hp_Pre dC dI dA κ B g [Value.ref h0]) (hp_Qi dC dI dA κ B (fun r u => g = u ∧ r.toInt = g 4 1)) 0 0 (hp_A B) := by
  refine Met.ofW (cc := cX5_length) (maxL := 1) (ret := (some .int)) (by decide) rfl ?_
  intro p e s m args below meth c s₁ Bd hml hv
  obtain ⟨rfl, hK, hN, hW, hF⟩ := hv
  have hx := Bd.exec
  have hb := Bd.bytes
  have hr := Bd.returns
  have hts := atoms_spec (ws := wsX5_length) Bd.pre
  have hown : s.vm.findClass RX5 = some m.cls := findClass_of_methodNamed Bd.named
  have hlocks := Bd.notSynchronized
  have hJ : hp_J dC dI dA κ B g s.heap s.heap [] := ⟨hF, va_S.rf⟩
  have hl := lv_entry ([Value.ref h0]) (n := 1) (Nat.le_of_ble_eq_true rfl)
  rw [lg_entry_eq]
  generalize (lg_sl ([Value.ref h0]) ++ List.replicate (1 - (lg_sl ([Value.ref h0])).length) Slot.unset).toArray = ls at hl ⊢
  have hl : lv_has ls 1 [(0, .ref h0)] := hl
  refine lv_aload_n hx hb dX5_length_0 rfl (lv_at hl 0 rfl) ?_
  refine hp_geti (C := RX5) (T := TX5) (N := 3) (ci := 5) (kd := 4) hx hb hts iX5_length_X5 hown hK hJ k0 rfl rfl 1 (by decide) (hts (.fieldLink RX5 19 "NeighborBook$SentFrame" "length" "I") (List.mem_of_getElem? (i := 1) rfl)) (fun _ h9 => h9) rfl rfl dX5_length_1 (fun x1 ex1 => ?_)
  have ex1 : x1.toInt = g 4 1 := ex1
  exact hp_iret hx hb hK hN hW hlocks hJ hr ⟨rfl, by omega⟩ dX5_length_4
theorem iX5_portOf_X5 : ∀ w ∈ wsX50, w ∈ wsX5_portOf := fun _ h => List.mem_cons_of_mem _ (List.mem_append_right _ h)
set_option maxRecDepth 100000 in
set_option maxHeartbeats 4000000 in
theorem c_X5_portOf (l : Launch) (dC : Nat → ClassId) (dI : Nat → Nat → Nat) (dA : Nat → ClassId) (κ : Nat → Nat) (B : Nat) (g : Nat → Nat → Int) (h0 : Nat) (k0 : κ h0 = 4) : Met l yX5_portOf wsX5_portOf ({ frames := 0, cells := 0, slots := 0, locals := 0 } : Room) (hp_Pre dC dI dA κ B g [Value.ref h0]) (hp_Qi dC dI dA κ B (fun r u => g = u ∧ r.toInt = g 4 2)) 0 0 (hp_A B) := by
  refine Met.ofW (cc := cX5_portOf) (maxL := 1) (ret := (some .int)) (by decide) rfl ?_
  intro p e s m args below meth c s₁ Bd hml hv
  obtain ⟨rfl, hK, hN, hW, hF⟩ := hv
  have hx := Bd.exec
  have hb := Bd.bytes
  have hr := Bd.returns
  have hts := atoms_spec (ws := wsX5_portOf) Bd.pre
  have hown : s.vm.findClass RX5 = some m.cls := findClass_of_methodNamed Bd.named
  have hlocks := Bd.notSynchronized
  have hJ : hp_J dC dI dA κ B g s.heap s.heap [] := ⟨hF, va_S.rf⟩
  have hl := lv_entry ([Value.ref h0]) (n := 1) (Nat.le_of_ble_eq_true rfl)
  rw [lg_entry_eq]
  generalize (lg_sl ([Value.ref h0]) ++ List.replicate (1 - (lg_sl ([Value.ref h0])).length) Slot.unset).toArray = ls at hl ⊢
  have hl : lv_has ls 1 [(0, .ref h0)] := hl
  refine lv_aload_n hx hb dX5_portOf_0 rfl (lv_at hl 0 rfl) ?_
  refine hp_geti (C := RX5) (T := TX5) (N := 3) (ci := 5) (kd := 4) hx hb hts iX5_portOf_X5 hown hK hJ k0 rfl rfl 2 (by decide) (hts (.fieldLink RX5 15 "NeighborBook$SentFrame" "port" "I") (List.mem_of_getElem? (i := 1) rfl)) (fun _ h9 => h9) rfl rfl dX5_portOf_1 (fun x1 ex1 => ?_)
  have ex1 : x1.toInt = g 4 2 := ex1
  exact hp_iret hx hb hK hN hW hlocks hJ hr ⟨rfl, by omega⟩ dX5_portOf_4
theorem iX5_byteAt_X5 : ∀ w ∈ wsX50, w ∈ wsX5_byteAt := fun _ h => List.mem_cons_of_mem _ (List.mem_append_right _ h)
set_option maxRecDepth 100000 in
set_option maxHeartbeats 4000000 in
theorem c_X5_byteAt (l : Launch) (dC : Nat → ClassId) (dI : Nat → Nat → Nat) (dA : Nat → ClassId) (κ : Nat → Nat) (B : Nat) (g : Nat → Nat → Int) (h0 : Nat) (k0 : κ h0 = 4) (k : Int32) (hG : hg_k g) : Met l yX5_byteAt wsX5_byteAt ({ frames := 0, cells := 0, slots := 0, locals := 0 } : Room) (hp_Pre dC dI dA κ B g [Value.ref h0, Value.int k]) (hp_Qi dC dI dA κ B (fun r u => g = u ∧ (g 4 1 = 0 → r.toInt = -1))) 0 0 (hp_A B) := by
  refine Met.ofW (cc := cX5_byteAt) (maxL := 2) (ret := (some .int)) (by decide) rfl ?_
  intro p e s m args below meth c s₁ Bd hml hv
  obtain ⟨rfl, hK, hN, hW, hF⟩ := hv
  have hx := Bd.exec
  have hb := Bd.bytes
  have hr := Bd.returns
  have hts := atoms_spec (ws := wsX5_byteAt) Bd.pre
  have hown : s.vm.findClass RX5 = some m.cls := findClass_of_methodNamed Bd.named
  have hlocks := Bd.notSynchronized
  have hJ : hp_J dC dI dA κ B g s.heap s.heap [] := ⟨hF, va_S.rf⟩
  have hl := lv_entry ([Value.ref h0, Value.int k]) (n := 2) (Nat.le_of_ble_eq_true rfl)
  rw [lg_entry_eq]
  generalize (lg_sl ([Value.ref h0, Value.int k]) ++ List.replicate (2 - (lg_sl ([Value.ref h0, Value.int k])).length) Slot.unset).toArray = ls at hl ⊢
  have hl : lv_has ls 2 [(0, .ref h0), (1, .int k)] := hl
  obtain ⟨hG1, hG2, hG3, hG4, hG5, hG6, hG7, hG8⟩ := id hG
  refine lv_iload_n hx hb dX5_byteAt_0 rfl (lv_at hl 1 rfl) ?_
  refine hq_if_lt (tgt := 25) hx hb dX5_byteAt_1 (by decide) (fun c1 => ?_) (fun c1 => ?_)
  · refine hq_iconst hx hb dX5_byteAt_25 (by decide) (by decide) (fun z2 ez2 => ?_)
    exact hp_iret hx hb hK hN hW hlocks hJ hr ⟨rfl, by omega⟩ dX5_byteAt_26
  · refine lv_iload_n hx hb dX5_byteAt_4 rfl (lv_at hl 1 rfl) ?_
    refine lv_aload_n hx hb dX5_byteAt_5 rfl (lv_at hl 0 rfl) ?_
    refine hp_geti (C := RX5) (T := TX5) (N := 3) (ci := 5) (kd := 4) hx hb hts iX5_byteAt_X5 hown hK hJ k0 rfl rfl 1 (by decide) (hts (.fieldLink RX5 19 "NeighborBook$SentFrame" "length" "I") (List.mem_of_getElem? (i := 1) rfl)) (fun _ h9 => h9) rfl rfl dX5_byteAt_6 (fun x3 ex3 => ?_)
    have ex3 : x3.toInt = g 4 1 := ex3
    refine hq_icmp_ge (tgt := 25) hx hb dX5_byteAt_9 (by decide) (fun c4 => ?_) (fun c4 => ?_)
    · refine hq_iconst hx hb dX5_byteAt_25 (by decide) (by decide) (fun z5 ez5 => ?_)
      exact hp_iret hx hb hK hN hW hlocks hJ hr ⟨rfl, by omega⟩ dX5_byteAt_26
    · refine lv_aload_n hx hb dX5_byteAt_12 rfl (lv_at hl 0 rfl) ?_
      refine hp_getr (C := RX5) (T := TX5) (N := 3) (ci := 5) (kd := 4) hx hb hts iX5_byteAt_X5 hown hK hJ k0 rfl rfl 0 (by decide) (hts (.fieldLink RX5 9 "NeighborBook$SentFrame" "bytes" "[B") (List.mem_of_getElem? (i := 2) rfl)) (fun _ h9 => h9) rfl dX5_byteAt_13 (fun b6 kb6 => ?_)
      refine lv_iload_n hx hb dX5_byteAt_16 rfl (lv_at hl 1 rfl) ?_
      refine hp_bald (kd := 17) (n := 439) hx hb hK hJ kb6 rfl (by omega) (by omega) (sp := (5, 0)) rfl rfl dX5_byteAt_17 (fun x7 ex7 => ?_)
      have ex7 : -128 ≤ x7.toInt ∧ x7.toInt ≤ 127 := ex7
      refine hq_sipush hx hb dX5_byteAt_18 (by decide) (fun z8 ez8 => ?_)
      refine hq_iandm (k := 8) hx hb dX5_byteAt_21 ez8 (by decide) (fun x9 ex9 => ?_)
      refine lv_goto (tgt := 26) hx hb dX5_byteAt_22 (by decide) ?_
      exact hp_iret hx hb hK hN hW hlocks hJ hr ⟨rfl, by omega⟩ dX5_byteAt_26
theorem iX5_putByte_X5 : ∀ w ∈ wsX50, w ∈ wsX5_putByte := fun _ h => List.mem_cons_of_mem _ (List.mem_append_right _ h)
set_option maxRecDepth 100000 in
set_option maxHeartbeats 4000000 in
theorem c_X5_putByte (l : Launch) (dC : Nat → ClassId) (dI : Nat → Nat → Nat) (dA : Nat → ClassId) (κ : Nat → Nat) (B : Nat) (g : Nat → Nat → Int) (h0 : Nat) (k0 : κ h0 = 4) (value : Int32) (hG : hg_k g) : Met l yX5_putByte wsX5_putByte ({ frames := 0, cells := 0, slots := 0, locals := 0 } : Room) (hp_Pre dC dI dA κ B g [Value.ref h0, Value.int value]) (hp_Qv dC dI dA κ B (fun u => hg_P hx_c g u ∧ hg_k u)) 0 0 (hp_A B) := by
  refine Met.ofW (cc := cX5_putByte) (maxL := 2) (ret := none) (by decide) rfl ?_
  intro p e s m args below meth c s₁ Bd hml hv
  obtain ⟨rfl, hK, hN, hW, hF⟩ := hv
  have hx := Bd.exec
  have hb := Bd.bytes
  have hr := Bd.returns
  have hts := atoms_spec (ws := wsX5_putByte) Bd.pre
  have hown : s.vm.findClass RX5 = some m.cls := findClass_of_methodNamed Bd.named
  have hlocks := Bd.notSynchronized
  have hJ : hp_J dC dI dA κ B g s.heap s.heap [] := ⟨hF, va_S.rf⟩
  have hl := lv_entry ([Value.ref h0, Value.int value]) (n := 2) (Nat.le_of_ble_eq_true rfl)
  rw [lg_entry_eq]
  generalize (lg_sl ([Value.ref h0, Value.int value]) ++ List.replicate (2 - (lg_sl ([Value.ref h0, Value.int value])).length) Slot.unset).toArray = ls at hl ⊢
  have hl : lv_has ls 2 [(0, .ref h0), (1, .int value)] := hl
  obtain ⟨hG1, hG2, hG3, hG4, hG5, hG6, hG7, hG8⟩ := id hG
  refine lv_aload_n hx hb dX5_putByte_0 rfl (lv_at hl 0 rfl) ?_
  refine hp_geti (C := RX5) (T := TX5) (N := 3) (ci := 5) (kd := 4) hx hb hts iX5_putByte_X5 hown hK hJ k0 rfl rfl 1 (by decide) (hts (.fieldLink RX5 19 "NeighborBook$SentFrame" "length" "I") (List.mem_of_getElem? (i := 1) rfl)) (fun _ h9 => h9) rfl rfl dX5_putByte_1 (fun x1 ex1 => ?_)
  have ex1 : x1.toInt = g 4 1 := ex1
  refine hq_sipush hx hb dX5_putByte_4 (by decide) (fun z2 ez2 => ?_)
  refine hq_icmp_ge (tgt := 31) hx hb dX5_putByte_7 (by decide) (fun c3 => ?_) (fun c3 => ?_)
  · exact hp_vret hx hb hK hN hW hlocks hJ hr ⟨hg_P.rf, hG⟩ dX5_putByte_31
  · refine lv_aload_n hx hb dX5_putByte_10 rfl (lv_at hl 0 rfl) ?_
    refine hp_getr (C := RX5) (T := TX5) (N := 3) (ci := 5) (kd := 4) hx hb hts iX5_putByte_X5 hown hK hJ k0 rfl rfl 0 (by decide) (hts (.fieldLink RX5 9 "NeighborBook$SentFrame" "bytes" "[B") (List.mem_of_getElem? (i := 2) rfl)) (fun _ h9 => h9) rfl dX5_putByte_11 (fun b4 kb4 => ?_)
    refine lv_aload_n hx hb dX5_putByte_14 rfl (lv_at hl 0 rfl) ?_
    refine hp_geti (C := RX5) (T := TX5) (N := 3) (ci := 5) (kd := 4) hx hb hts iX5_putByte_X5 hown hK hJ k0 rfl rfl 1 (by decide) (hts (.fieldLink RX5 19 "NeighborBook$SentFrame" "length" "I") (List.mem_of_getElem? (i := 1) rfl)) (fun _ h9 => h9) rfl rfl dX5_putByte_15 (fun x5 ex5 => ?_)
    have ex5 : x5.toInt = g 4 1 := ex5
    refine lv_iload_n hx hb dX5_putByte_18 rfl (lv_at hl 1 rfl) ?_
    refine hq_i2b hx hb dX5_putByte_19 (fun x6 => ?_)
    refine hp_bast (kd := 17) (n := 439) hx hb hK hJ kb4 rfl (by omega) (by omega) (by decide) hW rfl dX5_putByte_20 (fun H locs hJ => ?_)
    refine lv_aload_n hx hb dX5_putByte_21 rfl (lv_at hl 0 rfl) ?_
    refine lv_dup hx hb dX5_putByte_22 rfl ?_
    refine hp_geti (C := RX5) (T := TX5) (N := 3) (ci := 5) (kd := 4) hx hb hts iX5_putByte_X5 hown hK hJ k0 rfl rfl 1 (by decide) (hts (.fieldLink RX5 19 "NeighborBook$SentFrame" "length" "I") (List.mem_of_getElem? (i := 1) rfl)) (fun _ h9 => h9) rfl rfl dX5_putByte_23 (fun x7 ex7 => ?_)
    have ex7 : x7.toInt = g 4 1 := ex7
    refine hq_iconst hx hb dX5_putByte_26 (by decide) (by decide) (fun z8 ez8 => ?_)
    refine hq_iadd hx hb dX5_putByte_27 (by omega) (by omega) (fun x9 ex9 => ?_)
    refine hp_putx (C := RX5) (T := TX5) (N := 3) (ci := 5) (kd := 4) hx hb hts iX5_putByte_X5 hown hK hJ k0 rfl rfl 1 (by decide) (hts (.fieldLink RX5 19 "NeighborBook$SentFrame" "length" "I") (List.mem_of_getElem? (i := 1) rfl)) (fun _ h9 => h9) tyX5 tyX5_ok nmX5 (x := x9) rfl rfl (by decide) hW rfl rfl rfl dX5_putByte_28 (fun g10 H locs eg10 ng10 hJ => ?_)
    have eg10 : g10 4 1 = x9.toInt := eg10
    have P11 : hg_P hx_c g g10 := hg_P.put hg_P.rf ng10 rfl
    have tt12 : g10 1 1 = g 1 1 := ng10 1 1 (by decide)
    have tt13 : g10 10 1 = g 10 1 := ng10 10 1 (by decide)
    exact hp_vret hx hb hK hN hW hlocks hJ hr ⟨P11, (hg_k.ofc hG P11 (by constructor <;> omega) (by constructor <;> omega) )⟩ dX5_putByte_31
theorem iX5_putHead_X5 : ∀ w ∈ wsX50, w ∈ wsX5_putHead := fun _ h => List.mem_cons_of_mem _ (List.mem_append_right _ h)
set_option maxRecDepth 100000 in
set_option maxHeartbeats 4000000 in
theorem c_X5_putHead (l : Launch) (dC : Nat → ClassId) (dI : Nat → Nat → Nat) (dA : Nat → ClassId) (κ : Nat → Nat) (B : Nat) (g : Nat → Nat → Int) (h0 : Nat) (k0 : κ h0 = 4) (type : Int32) (size : Int32) (hG : hg_k g) : Met l yX5_putHead wsX5_putHead ({ frames := 1, cells := 0, slots := 0, locals := 21 } : Room) (hp_Pre dC dI dA κ B g [Value.ref h0, Value.int type, Value.int size]) (hp_Qv dC dI dA κ B (fun u => hg_P hx_c g u ∧ hg_k u)) 0 0 (hp_A B) := by
  refine Met.ofW (cc := cX5_putHead) (maxL := 4) (ret := none) (by decide) rfl ?_
  intro p e s m args below meth c s₁ Bd hml hv
  obtain ⟨rfl, hK, hN, hW, hF⟩ := hv
  have hx := Bd.exec
  have hb := Bd.bytes
  have hr := Bd.returns
  have hts := atoms_spec (ws := wsX5_putHead) Bd.pre
  have hown : s.vm.findClass RX5 = some m.cls := findClass_of_methodNamed Bd.named
  have hlocks := Bd.notSynchronized
  have hJ : hp_J dC dI dA κ B g s.heap s.heap [] := ⟨hF, va_S.rf⟩
  have hl := lv_entry ([Value.ref h0, Value.int type, Value.int size]) (n := 4) (Nat.le_of_ble_eq_true rfl)
  rw [lg_entry_eq]
  generalize (lg_sl ([Value.ref h0, Value.int type, Value.int size]) ++ List.replicate (4 - (lg_sl ([Value.ref h0, Value.int type, Value.int size])).length) Slot.unset).toArray = ls at hl ⊢
  have hl : lv_has ls 4 [(0, .ref h0), (1, .int type), (2, .int size)] := hl
  obtain ⟨hG1, hG2, hG3, hG4, hG5, hG6, hG7, hG8⟩ := id hG
  refine lv_iload_n hx hb dX5_putHead_0 rfl (lv_at hl 1 rfl) ?_
  refine hq_bipush hx hb dX5_putHead_1 (by decide) (fun z1 ez1 => ?_)
  refine hq_ishlU hx hb dX5_putHead_3 (fun x2 => ?_)
  refine lv_iload_n hx hb dX5_putHead_4 rfl (lv_at hl 2 rfl) ?_
  refine hq_iorU hx hb dX5_putHead_5 (fun x3 => ?_)
  refine lv_istore_n (lv' := [(3, .int x3), (0, .ref h0), (1, .int type), (2, .int size)]) hx hb dX5_putHead_6 rfl hl (by decide) rfl (fun ls hl => ?_)
  refine lv_aload_n hx hb dX5_putHead_7 rfl (lv_at hl 1 rfl) ?_
  refine lv_iload_n hx hb dX5_putHead_8 rfl (lv_at hl 0 rfl) ?_
  refine hq_bipush hx hb dX5_putHead_9 (by decide) (fun z4 ez4 => ?_)
  refine hq_ishrU hx hb dX5_putHead_11 (fun x5 => ?_)
  refine hp_callv (va_runV (As := [.int x5]) (rest := []) ⟨hx, hb, hml, hown, hts⟩ (c_X5_putByte l dC dI dA κ B g h0 k0 x5 hG) (cwV 1 hts gX5_putHead_X5_putByte rfl rfl rfl (by decide +kernel) ⟨Nat.le_of_ble_eq_true rfl, Nat.le_of_ble_eq_true rfl⟩) (hp_preV (q := (RX5, TX5, 3)) [.int x5] hK hN hW hJ k0 rfl rfl) rfl rfl hl.1 rfl (lv_room (Nat.le_of_ble_eq_true rfl)) dX5_putHead_12 ⟨Nat.zero_le _, Nat.zero_le _⟩) hJ (fun g6 H locs hp hJ => ?_)
  obtain ⟨P8a, K9⟩ := hp
  obtain ⟨K91, K92, K93, K94, K95, K96, K97, K98⟩ := id K9
  have P8 : hg_P hx_c g g6 := P8a
  have qt10 : g6 1 1 = g 1 1 := P8a 1 1 rfl
  have qt11 : g6 11 1 = g 11 1 := P8a 11 1 rfl
  have qt12 : g6 11 13 = g 11 13 := P8a 11 13 rfl
  have qt13 : g6 11 22 = g 11 22 := P8a 11 22 rfl
  refine lv_aload_n hx hb dX5_putHead_15 rfl (lv_at hl 1 rfl) ?_
  refine lv_iload_n hx hb dX5_putHead_16 rfl (lv_at hl 0 rfl) ?_
  refine hp_callv (va_runV (As := [.int x3]) (rest := []) ⟨hx, hb, hml, hown, hts⟩ (c_X5_putByte l dC dI dA κ B g6 h0 k0 x3 K9) (cwV 1 hts gX5_putHead_X5_putByte rfl rfl rfl (by decide +kernel) ⟨Nat.le_of_ble_eq_true rfl, Nat.le_of_ble_eq_true rfl⟩) (hp_preV (q := (RX5, TX5, 3)) [.int x3] hK hN hW hJ k0 rfl rfl) rfl rfl hl.1 rfl (lv_room (Nat.le_of_ble_eq_true rfl)) dX5_putHead_17 ⟨Nat.zero_le _, Nat.zero_le _⟩) hJ (fun g14 H locs hp hJ => ?_)
  obtain ⟨P16a, K17⟩ := hp
  obtain ⟨K171, K172, K173, K174, K175, K176, K177, K178⟩ := id K17
  have P16 : hg_P hx_c g g14 := hg_P.tr P8 P16a
  have qt18 : g14 1 1 = g6 1 1 := P16a 1 1 rfl
  have qt19 : g14 11 1 = g6 11 1 := P16a 11 1 rfl
  have qt20 : g14 11 13 = g6 11 13 := P16a 11 13 rfl
  have qt21 : g14 11 22 = g6 11 22 := P16a 11 22 rfl
  exact hp_vret hx hb hK hN hW hlocks hJ hr ⟨P16, K17⟩ dX5_putHead_20
theorem iX5_putContent_X0 : ∀ w ∈ wsX00, w ∈ wsX5_putContent := fun _ h => List.mem_cons_of_mem _ (List.mem_append_left _ (List.mem_append_right _ h))
theorem iX5_putContent_X5 : ∀ w ∈ wsX50, w ∈ wsX5_putContent := fun _ h => List.mem_cons_of_mem _ (List.mem_append_right _ h)
set_option maxRecDepth 100000 in
set_option maxHeartbeats 4000000 in
theorem c_X5_putContent (l : Launch) (dC : Nat → ClassId) (dI : Nat → Nat → Nat) (dA : Nat → ClassId) (κ : Nat → Nat) (B : Nat) (g : Nat → Nat → Int) (h0 : Nat) (k0 : κ h0 = 4) (type : Int32) (told : Nat) (ktold : κ told = 2) (hG : hg_k g) : Met l yX5_putContent wsX5_putContent ({ frames := 2, cells := 0, slots := 0, locals := 43 } : Room) (hp_Pre dC dI dA κ B g [Value.ref h0, Value.int type, Value.ref told]) (hp_Qv dC dI dA κ B (fun u => hg_P hx_c g u ∧ hg_k u)) 0 0 (hp_A B) := by
  refine Met.ofW (cc := cX5_putContent) (maxL := 5) (ret := none) (by decide) rfl ?_
  intro p e s m args below meth c s₁ Bd hml hv
  obtain ⟨rfl, hK, hN, hW, hF⟩ := hv
  have hx := Bd.exec
  have hb := Bd.bytes
  have hr := Bd.returns
  have hts := atoms_spec (ws := wsX5_putContent) Bd.pre
  have hown : s.vm.findClass RX5 = some m.cls := findClass_of_methodNamed Bd.named
  have hlocks := Bd.notSynchronized
  have hJ : hp_J dC dI dA κ B g s.heap s.heap [] := ⟨hF, va_S.rf⟩
  have hl := lv_entry ([Value.ref h0, Value.int type, Value.ref told]) (n := 5) (Nat.le_of_ble_eq_true rfl)
  rw [lg_entry_eq]
  generalize (lg_sl ([Value.ref h0, Value.int type, Value.ref told]) ++ List.replicate (5 - (lg_sl ([Value.ref h0, Value.int type, Value.ref told])).length) Slot.unset).toArray = ls at hl ⊢
  have hl : lv_has ls 5 [(0, .ref h0), (1, .int type), (2, .ref told)] := hl
  obtain ⟨hG1, hG2, hG3, hG4, hG5, hG6, hG7, hG8⟩ := id hG
  refine lv_aload_n hx hb dX5_putContent_0 rfl (lv_at hl 2 rfl) ?_
  refine lv_iload_n hx hb dX5_putContent_1 rfl (lv_at hl 1 rfl) ?_
  refine hp_calli (va_runV (As := [.int type]) (rest := []) ⟨hx, hb, hml, hown, hts⟩ (c_X0_sizeOf l dC dI dA κ B g told ktold type) (cwV 1 hts gX5_putContent_X0_sizeOf rfl rfl rfl (by decide +kernel) ⟨Nat.le_of_ble_eq_true rfl, Nat.le_of_ble_eq_true rfl⟩) (hp_preV (q := (RX0, TX0, 2)) [.int type] hK hN hW hJ ktold rfl rfl) rfl rfl hl.1 rfl (lv_room (Nat.le_of_ble_eq_true rfl)) dX5_putContent_2 ⟨Nat.zero_le _, Nat.zero_le _⟩) hJ (fun x2 g1 H locs hp hJ => ?_)
  obtain ⟨rfl, f3⟩ := hp
  refine lv_istore_n (lv' := [(3, .int x2), (0, .ref h0), (1, .int type), (2, .ref told)]) hx hb dX5_putContent_5 rfl hl (by decide) rfl (fun ls hl => ?_)
  refine hq_iconst hx hb dX5_putContent_6 (by decide) (by decide) (fun z4 ez4 => ?_)
  refine lv_istore (lv' := [(4, .int z4), (3, .int x2), (0, .ref h0), (1, .int type), (2, .ref told)]) hx hb dX5_putContent_7 hl (by decide) rfl (fun ls hl => ?_)
  have lp7 : ∀ (nlp7 : Nat) (v5 : Int32) (g6 : Nat → Nat → Int) (H : Heap) (locs : List Loc) (ls : Array Slot), (hg_P hx_c g g6) → (hg_k g6) → (0 ≤ v5.toInt) → (v5.toInt ≤ 60) → (61 - v5.toInt < (nlp7 : Int)) → hp_J dC dI dA κ B g6 s.heap H locs → lv_has ls 5 [(0, .ref h0), (1, .int type), (2, .ref told), (3, .int x2), (4, .int v5)] → W p l e (headSpec wsX5_putContent ({ frames := 2, cells := 0, slots := 0, locals := 43 } : Room)).room s m ([Value.ref h0, Value.int type, Value.ref told] : List Value).toArray below meth c H locs 0 0 (MQ below (hp_Qv dC dI dA κ B (fun u => hg_P hx_c g u ∧ hg_k u)) ([Value.ref h0, Value.int type, Value.ref told] : List Value).toArray s 0 0 (hp_A B)) (F0 m 9 ls []) := by
    intro nlp7
    induction nlp7 with
    | zero => intro v5 g6 H locs ls iv9 iv10 iv11 iv12 hm8 hJ hl; exact absurd hm8 (by omega)
    | succ nlp7 ihlp7 =>
      intro v5 g6 H locs ls iv9 iv10 iv11 iv12 hm8 hJ hl
      obtain ⟨hG1, hG2, hG3, hG4, hG5, hG6, hG7, hG8⟩ := id iv10
      refine lv_iload hx hb dX5_putContent_9 (lv_at hl 4 rfl) ?_
      refine lv_iload_n hx hb dX5_putContent_11 rfl (lv_at hl 3 rfl) ?_
      refine hq_icmp_ge (tgt := 32) hx hb dX5_putContent_12 (by decide) (fun c13 => ?_) (fun c13 => ?_)
      · exact hp_vret hx hb hK hN hW hlocks hJ hr ⟨iv9, iv10⟩ dX5_putContent_32
      · refine lv_aload_n hx hb dX5_putContent_15 rfl (lv_at hl 0 rfl) ?_
        refine lv_aload_n hx hb dX5_putContent_16 rfl (lv_at hl 2 rfl) ?_
        refine lv_iload_n hx hb dX5_putContent_17 rfl (lv_at hl 1 rfl) ?_
        refine lv_iload hx hb dX5_putContent_18 (lv_at hl 4 rfl) ?_
        refine hp_calli (va_runV (As := [.int type, .int v5]) (rest := [.ref h0]) ⟨hx, hb, hml, hown, hts⟩ (c_X0_byteAt l dC dI dA κ B g6 told ktold type v5) (cwV 2 hts gX5_putContent_X0_byteAt rfl rfl rfl (by decide +kernel) ⟨Nat.le_of_ble_eq_true rfl, Nat.le_of_ble_eq_true rfl⟩) (hp_preV (q := (RX0, TX0, 2)) [.int type, .int v5] hK hN hW hJ ktold rfl rfl) rfl rfl hl.1 rfl (lv_room (Nat.le_of_ble_eq_true rfl)) dX5_putContent_20 ⟨Nat.zero_le _, Nat.zero_le _⟩) hJ (fun x15 g14 H locs hp hJ => ?_)
        subst hp
        refine hp_callv (va_runV (As := [.int x15]) (rest := []) ⟨hx, hb, hml, hown, hts⟩ (c_X5_putByte l dC dI dA κ B g6 h0 k0 x15 iv10) (cwV 1 hts gX5_putContent_X5_putByte rfl rfl rfl (by decide +kernel) ⟨Nat.le_of_ble_eq_true rfl, Nat.le_of_ble_eq_true rfl⟩) (hp_preV (q := (RX5, TX5, 3)) [.int x15] hK hN hW hJ k0 rfl rfl) rfl rfl hl.1 rfl (lv_room (Nat.le_of_ble_eq_true rfl)) dX5_putContent_23 ⟨Nat.zero_le _, Nat.zero_le _⟩) hJ (fun g16 H locs hp hJ => ?_)
        obtain ⟨P18a, K19⟩ := hp
        obtain ⟨K191, K192, K193, K194, K195, K196, K197, K198⟩ := id K19
        have P18 : hg_P hx_c g g16 := hg_P.tr iv9 P18a
        have qt20 : g16 1 1 = g6 1 1 := P18a 1 1 rfl
        have qt21 : g16 11 1 = g6 11 1 := P18a 11 1 rfl
        have qt22 : g16 11 13 = g6 11 13 := P18a 11 13 rfl
        have qt23 : g16 11 22 = g6 11 22 := P18a 11 22 rfl
        refine hq_iinc (k := 4) (lv' := fun (z9 : Int32) => [(4, .int z9), (0, .ref h0), (1, .int type), (2, .ref told), (3, .int x2)]) hx hb dX5_putContent_26 hl rfl (by decide) (by decide) (by omega) (by omega) (by decide) (fun _ => rfl) (fun x24 ls ex24 hl => ?_)
        have hl : lv_has ls 5 [(4, .int x24), (0, .ref h0), (1, .int type), (2, .ref told), (3, .int x2)] := hl
        refine lv_goto (tgt := 9) hx hb dX5_putContent_29 (by decide) ?_
        exact ihlp7 x24 g16 _ _ ls P18 K19 (by omega) (by omega) (by omega) hJ (lv_sub hl [1, 2, 3, 4, 0] rfl)
  exact lp7 ((61 - z4.toInt).toNat + 1) z4 g _ _ ls hg_P.rf hG (by omega) (by omega) (by omega) hJ (lv_sub hl [2, 3, 4, 1, 0] rfl)
theorem iX5_write_X5 : ∀ w ∈ wsX50, w ∈ wsX5_write := fun _ h => List.mem_cons_of_mem _ (List.mem_append_left _ (List.mem_append_right _ h))
theorem iX5_write_X0 : ∀ w ∈ wsX00, w ∈ wsX5_write := fun _ h => List.mem_cons_of_mem _ (List.mem_append_right _ h)
set_option maxRecDepth 100000 in
set_option maxHeartbeats 4000000 in
theorem c_X5_write (l : Launch) (dC : Nat → ClassId) (dI : Nat → Nat → Nat) (dA : Nat → ClassId) (κ : Nat → Nat) (B : Nat) (g : Nat → Nat → Int) (h0 : Nat) (k0 : κ h0 = 4) (p1 : Int32) (told : Nat) (ktold : κ told = 2) (held : Int32) (hG : hg_k g) : Met l yX5_write wsX5_write ({ frames := 3, cells := 0, slots := 0, locals := 67 } : Room) (hp_Pre dC dI dA κ B g [Value.ref h0, Value.int p1, Value.ref told, Value.int held]) (hp_Qv dC dI dA κ B (fun u => hg_P hx_c g u ∧ hg_k u)) 0 0 (hp_A B) := by
  refine Met.ofW (cc := cX5_write) (maxL := 5) (ret := none) (by decide) rfl ?_
  intro p e s m args below meth c s₁ Bd hml hv
  obtain ⟨rfl, hK, hN, hW, hF⟩ := hv
  have hx := Bd.exec
  have hb := Bd.bytes
  have hr := Bd.returns
  have hts := atoms_spec (ws := wsX5_write) Bd.pre
  have hown : s.vm.findClass RX5 = some m.cls := findClass_of_methodNamed Bd.named
  have hlocks := Bd.notSynchronized
  have hJ : hp_J dC dI dA κ B g s.heap s.heap [] := ⟨hF, va_S.rf⟩
  have hl := lv_entry ([Value.ref h0, Value.int p1, Value.ref told, Value.int held]) (n := 5) (Nat.le_of_ble_eq_true rfl)
  rw [lg_entry_eq]
  generalize (lg_sl ([Value.ref h0, Value.int p1, Value.ref told, Value.int held]) ++ List.replicate (5 - (lg_sl ([Value.ref h0, Value.int p1, Value.ref told, Value.int held])).length) Slot.unset).toArray = ls at hl ⊢
  have hl : lv_has ls 5 [(0, .ref h0), (1, .int p1), (2, .ref told), (3, .int held)] := hl
  obtain ⟨hG1, hG2, hG3, hG4, hG5, hG6, hG7, hG8⟩ := id hG
  refine lv_aload_n hx hb dX5_write_0 rfl (lv_at hl 0 rfl) ?_
  refine lv_iload_n hx hb dX5_write_1 rfl (lv_at hl 1 rfl) ?_
  refine hp_putx (C := RX5) (T := TX5) (N := 3) (ci := 5) (kd := 4) hx hb hts iX5_write_X5 hown hK hJ k0 rfl rfl 2 (by decide) (hts (.fieldLink RX5 15 "NeighborBook$SentFrame" "port" "I") (List.mem_of_getElem? (i := 1) rfl)) (fun _ h9 => h9) tyX5 tyX5_ok nmX5 (x := p1) rfl rfl (by decide) hW rfl rfl rfl dX5_write_2 (fun g1 H locs eg1 ng1 hJ => ?_)
  have eg1 : g1 4 2 = p1.toInt := eg1
  have P2 : hg_P hx_c g g1 := hg_P.put hg_P.rf ng1 rfl
  have tt3 : g1 1 1 = g 1 1 := ng1 1 1 (by decide)
  have tt4 : g1 10 1 = g 10 1 := ng1 10 1 (by decide)
  have tt5 : g1 4 1 = g 4 1 := ng1 4 1 (by decide)
  refine lv_aload_n hx hb dX5_write_5 rfl (lv_at hl 0 rfl) ?_
  refine hq_iconst hx hb dX5_write_6 (by decide) (by decide) (fun z6 ez6 => ?_)
  refine hp_putx (C := RX5) (T := TX5) (N := 3) (ci := 5) (kd := 4) hx hb hts iX5_write_X5 hown hK hJ k0 rfl rfl 1 (by decide) (hts (.fieldLink RX5 19 "NeighborBook$SentFrame" "length" "I") (List.mem_of_getElem? (i := 2) rfl)) (fun _ h9 => h9) tyX5 tyX5_ok nmX5 (x := z6) rfl rfl (by decide) hW rfl rfl rfl dX5_write_7 (fun g7 H locs eg7 ng7 hJ => ?_)
  have eg7 : g7 4 1 = z6.toInt := eg7
  have P8 : hg_P hx_c g g7 := hg_P.put P2 ng7 rfl
  have tt9 : g7 1 1 = g1 1 1 := ng7 1 1 (by decide)
  have tt10 : g7 10 1 = g1 10 1 := ng7 10 1 (by decide)
  refine lv_aload_n hx hb dX5_write_10 rfl (lv_at hl 0 rfl) ?_
  refine hq_iconst hx hb dX5_write_11 (by decide) (by decide) (fun z11 ez11 => ?_)
  refine lv_aload_n hx hb dX5_write_12 rfl (lv_at hl 2 rfl) ?_
  refine hq_iconst hx hb dX5_write_13 (by decide) (by decide) (fun z12 ez12 => ?_)
  refine hp_calli (va_runV (As := [.int z12]) (rest := [.int z11, .ref h0]) ⟨hx, hb, hml, hown, hts⟩ (c_X0_sizeOf l dC dI dA κ B g7 told ktold z12) (cwV 1 hts gX5_write_X0_sizeOf rfl rfl rfl (by decide +kernel) ⟨Nat.le_of_ble_eq_true rfl, Nat.le_of_ble_eq_true rfl⟩) (hp_preV (q := (RX0, TX0, 2)) [.int z12] hK hN hW hJ ktold rfl rfl) rfl rfl hl.1 rfl (lv_room (Nat.le_of_ble_eq_true rfl)) dX5_write_14 ⟨Nat.zero_le _, Nat.zero_le _⟩) hJ (fun x14 g13 H locs hp hJ => ?_)
  obtain ⟨rfl, f15⟩ := hp
  refine hp_callv (va_runV (As := [.int z11, .int x14]) (rest := []) ⟨hx, hb, hml, hown, hts⟩ (c_X5_putHead l dC dI dA κ B g7 h0 k0 z11 x14 (hg_k.ofc hG P8 (by constructor <;> omega) (by constructor <;> omega) )) (cwV 2 hts gX5_write_X5_putHead rfl rfl rfl (by decide +kernel) ⟨Nat.le_of_ble_eq_true rfl, Nat.le_of_ble_eq_true rfl⟩) (hp_preV (q := (RX5, TX5, 3)) [.int z11, .int x14] hK hN hW hJ k0 rfl rfl) rfl rfl hl.1 rfl (lv_room (Nat.le_of_ble_eq_true rfl)) dX5_write_17 ⟨Nat.zero_le _, Nat.zero_le _⟩) hJ (fun g16 H locs hp hJ => ?_)
  obtain ⟨P18a, K19⟩ := hp
  obtain ⟨K191, K192, K193, K194, K195, K196, K197, K198⟩ := id K19
  have P18 : hg_P hx_c g g16 := hg_P.tr P8 P18a
  have qt20 : g16 1 1 = g7 1 1 := P18a 1 1 rfl
  have qt21 : g16 11 1 = g7 11 1 := P18a 11 1 rfl
  have qt22 : g16 11 13 = g7 11 13 := P18a 11 13 rfl
  have qt23 : g16 11 22 = g7 11 22 := P18a 11 22 rfl
  refine lv_aload_n hx hb dX5_write_20 rfl (lv_at hl 0 rfl) ?_
  refine hq_iconst hx hb dX5_write_21 (by decide) (by decide) (fun z24 ez24 => ?_)
  refine lv_aload_n hx hb dX5_write_22 rfl (lv_at hl 2 rfl) ?_
  refine hp_callv (va_runV (As := [.int z24, .ref told]) (rest := []) ⟨hx, hb, hml, hown, hts⟩ (c_X5_putContent l dC dI dA κ B g16 h0 k0 z24 told ktold K19) (cwV 2 hts gX5_write_X5_putContent rfl rfl rfl (by decide +kernel) ⟨Nat.le_of_ble_eq_true rfl, Nat.le_of_ble_eq_true rfl⟩) (hp_preV (q := (RX5, TX5, 3)) [.int z24, .ref told] hK hN hW hJ k0 rfl rfl) rfl rfl hl.1 rfl (lv_room (Nat.le_of_ble_eq_true rfl)) dX5_write_23 ⟨Nat.zero_le _, Nat.zero_le _⟩) hJ (fun g25 H locs hp hJ => ?_)
  obtain ⟨P27a, K28⟩ := hp
  obtain ⟨K281, K282, K283, K284, K285, K286, K287, K288⟩ := id K28
  have P27 : hg_P hx_c g g25 := hg_P.tr P18 P27a
  have qt29 : g25 1 1 = g16 1 1 := P27a 1 1 rfl
  have qt30 : g25 11 1 = g16 11 1 := P27a 11 1 rfl
  have qt31 : g25 11 13 = g16 11 13 := P27a 11 13 rfl
  have qt32 : g25 11 22 = g16 11 22 := P27a 11 22 rfl
  refine lv_aload_n hx hb dX5_write_26 rfl (lv_at hl 0 rfl) ?_
  refine hq_iconst hx hb dX5_write_27 (by decide) (by decide) (fun z33 ez33 => ?_)
  refine lv_aload_n hx hb dX5_write_28 rfl (lv_at hl 2 rfl) ?_
  refine hq_iconst hx hb dX5_write_29 (by decide) (by decide) (fun z34 ez34 => ?_)
  refine hp_calli (va_runV (As := [.int z34]) (rest := [.int z33, .ref h0]) ⟨hx, hb, hml, hown, hts⟩ (c_X0_sizeOf l dC dI dA κ B g25 told ktold z34) (cwV 1 hts gX5_write_X0_sizeOf rfl rfl rfl (by decide +kernel) ⟨Nat.le_of_ble_eq_true rfl, Nat.le_of_ble_eq_true rfl⟩) (hp_preV (q := (RX0, TX0, 2)) [.int z34] hK hN hW hJ ktold rfl rfl) rfl rfl hl.1 rfl (lv_room (Nat.le_of_ble_eq_true rfl)) dX5_write_30 ⟨Nat.zero_le _, Nat.zero_le _⟩) hJ (fun x36 g35 H locs hp hJ => ?_)
  obtain ⟨rfl, f37⟩ := hp
  refine hq_iconst hx hb dX5_write_33 (by decide) (by decide) (fun z38 ez38 => ?_)
  refine hq_iadd hx hb dX5_write_34 (by omega) (by omega) (fun x39 ex39 => ?_)
  refine hp_callv (va_runV (As := [.int z33, .int x39]) (rest := []) ⟨hx, hb, hml, hown, hts⟩ (c_X5_putHead l dC dI dA κ B g25 h0 k0 z33 x39 K28) (cwV 2 hts gX5_write_X5_putHead rfl rfl rfl (by decide +kernel) ⟨Nat.le_of_ble_eq_true rfl, Nat.le_of_ble_eq_true rfl⟩) (hp_preV (q := (RX5, TX5, 3)) [.int z33, .int x39] hK hN hW hJ k0 rfl rfl) rfl rfl hl.1 rfl (lv_room (Nat.le_of_ble_eq_true rfl)) dX5_write_35 ⟨Nat.zero_le _, Nat.zero_le _⟩) hJ (fun g40 H locs hp hJ => ?_)
  obtain ⟨P42a, K43⟩ := hp
  obtain ⟨K431, K432, K433, K434, K435, K436, K437, K438⟩ := id K43
  have P42 : hg_P hx_c g g40 := hg_P.tr P27 P42a
  have qt44 : g40 1 1 = g25 1 1 := P42a 1 1 rfl
  have qt45 : g40 11 1 = g25 11 1 := P42a 11 1 rfl
  have qt46 : g40 11 13 = g25 11 13 := P42a 11 13 rfl
  have qt47 : g40 11 22 = g25 11 22 := P42a 11 22 rfl
  refine lv_aload_n hx hb dX5_write_38 rfl (lv_at hl 0 rfl) ?_
  refine hq_iconst hx hb dX5_write_39 (by decide) (by decide) (fun z48 ez48 => ?_)
  refine lv_aload_n hx hb dX5_write_40 rfl (lv_at hl 2 rfl) ?_
  refine hp_callv (va_runV (As := [.int z48, .ref told]) (rest := []) ⟨hx, hb, hml, hown, hts⟩ (c_X5_putContent l dC dI dA κ B g40 h0 k0 z48 told ktold K43) (cwV 2 hts gX5_write_X5_putContent rfl rfl rfl (by decide +kernel) ⟨Nat.le_of_ble_eq_true rfl, Nat.le_of_ble_eq_true rfl⟩) (hp_preV (q := (RX5, TX5, 3)) [.int z48, .ref told] hK hN hW hJ k0 rfl rfl) rfl rfl hl.1 rfl (lv_room (Nat.le_of_ble_eq_true rfl)) dX5_write_41 ⟨Nat.zero_le _, Nat.zero_le _⟩) hJ (fun g49 H locs hp hJ => ?_)
  obtain ⟨P51a, K52⟩ := hp
  obtain ⟨K521, K522, K523, K524, K525, K526, K527, K528⟩ := id K52
  have P51 : hg_P hx_c g g49 := hg_P.tr P42 P51a
  have qt53 : g49 1 1 = g40 1 1 := P51a 1 1 rfl
  have qt54 : g49 11 1 = g40 11 1 := P51a 11 1 rfl
  have qt55 : g49 11 13 = g40 11 13 := P51a 11 13 rfl
  have qt56 : g49 11 22 = g40 11 22 := P51a 11 22 rfl
  refine lv_aload_n hx hb dX5_write_44 rfl (lv_at hl 0 rfl) ?_
  refine lv_iload_n hx hb dX5_write_45 rfl (lv_at hl 1 rfl) ?_
  refine hp_callv (va_runV (As := [.int p1]) (rest := []) ⟨hx, hb, hml, hown, hts⟩ (c_X5_putByte l dC dI dA κ B g49 h0 k0 p1 K52) (cwV 1 hts gX5_write_X5_putByte rfl rfl rfl (by decide +kernel) ⟨Nat.le_of_ble_eq_true rfl, Nat.le_of_ble_eq_true rfl⟩) (hp_preV (q := (RX5, TX5, 3)) [.int p1] hK hN hW hJ k0 rfl rfl) rfl rfl hl.1 rfl (lv_room (Nat.le_of_ble_eq_true rfl)) dX5_write_46 ⟨Nat.zero_le _, Nat.zero_le _⟩) hJ (fun g57 H locs hp hJ => ?_)
  obtain ⟨P59a, K60⟩ := hp
  obtain ⟨K601, K602, K603, K604, K605, K606, K607, K608⟩ := id K60
  have P59 : hg_P hx_c g g57 := hg_P.tr P51 P59a
  have qt61 : g57 1 1 = g49 1 1 := P59a 1 1 rfl
  have qt62 : g57 11 1 = g49 11 1 := P59a 11 1 rfl
  have qt63 : g57 11 13 = g49 11 13 := P59a 11 13 rfl
  have qt64 : g57 11 22 = g49 11 22 := P59a 11 22 rfl
  refine lv_aload_n hx hb dX5_write_49 rfl (lv_at hl 0 rfl) ?_
  refine hq_iconst hx hb dX5_write_50 (by decide) (by decide) (fun z65 ez65 => ?_)
  refine hq_iconst hx hb dX5_write_51 (by decide) (by decide) (fun z66 ez66 => ?_)
  refine hp_callv (va_runV (As := [.int z65, .int z66]) (rest := []) ⟨hx, hb, hml, hown, hts⟩ (c_X5_putHead l dC dI dA κ B g57 h0 k0 z65 z66 K60) (cwV 2 hts gX5_write_X5_putHead rfl rfl rfl (by decide +kernel) ⟨Nat.le_of_ble_eq_true rfl, Nat.le_of_ble_eq_true rfl⟩) (hp_preV (q := (RX5, TX5, 3)) [.int z65, .int z66] hK hN hW hJ k0 rfl rfl) rfl rfl hl.1 rfl (lv_room (Nat.le_of_ble_eq_true rfl)) dX5_write_52 ⟨Nat.zero_le _, Nat.zero_le _⟩) hJ (fun g67 H locs hp hJ => ?_)
  obtain ⟨P69a, K70⟩ := hp
  obtain ⟨K701, K702, K703, K704, K705, K706, K707, K708⟩ := id K70
  have P69 : hg_P hx_c g g67 := hg_P.tr P59 P69a
  have qt71 : g67 1 1 = g57 1 1 := P69a 1 1 rfl
  have qt72 : g67 11 1 = g57 11 1 := P69a 11 1 rfl
  have qt73 : g67 11 13 = g57 11 13 := P69a 11 13 rfl
  have qt74 : g67 11 22 = g57 11 22 := P69a 11 22 rfl
  refine lv_aload_n hx hb dX5_write_55 rfl (lv_at hl 0 rfl) ?_
  refine lv_iload_n hx hb dX5_write_56 rfl (lv_at hl 3 rfl) ?_
  refine hq_bipush hx hb dX5_write_57 (by decide) (fun z75 ez75 => ?_)
  refine hq_ishrU hx hb dX5_write_59 (fun x76 => ?_)
  refine hp_callv (va_runV (As := [.int x76]) (rest := []) ⟨hx, hb, hml, hown, hts⟩ (c_X5_putByte l dC dI dA κ B g67 h0 k0 x76 K70) (cwV 1 hts gX5_write_X5_putByte rfl rfl rfl (by decide +kernel) ⟨Nat.le_of_ble_eq_true rfl, Nat.le_of_ble_eq_true rfl⟩) (hp_preV (q := (RX5, TX5, 3)) [.int x76] hK hN hW hJ k0 rfl rfl) rfl rfl hl.1 rfl (lv_room (Nat.le_of_ble_eq_true rfl)) dX5_write_60 ⟨Nat.zero_le _, Nat.zero_le _⟩) hJ (fun g77 H locs hp hJ => ?_)
  obtain ⟨P79a, K80⟩ := hp
  obtain ⟨K801, K802, K803, K804, K805, K806, K807, K808⟩ := id K80
  have P79 : hg_P hx_c g g77 := hg_P.tr P69 P79a
  have qt81 : g77 1 1 = g67 1 1 := P79a 1 1 rfl
  have qt82 : g77 11 1 = g67 11 1 := P79a 11 1 rfl
  have qt83 : g77 11 13 = g67 11 13 := P79a 11 13 rfl
  have qt84 : g77 11 22 = g67 11 22 := P79a 11 22 rfl
  refine lv_aload_n hx hb dX5_write_63 rfl (lv_at hl 0 rfl) ?_
  refine lv_iload_n hx hb dX5_write_64 rfl (lv_at hl 3 rfl) ?_
  refine hp_callv (va_runV (As := [.int held]) (rest := []) ⟨hx, hb, hml, hown, hts⟩ (c_X5_putByte l dC dI dA κ B g77 h0 k0 held K80) (cwV 1 hts gX5_write_X5_putByte rfl rfl rfl (by decide +kernel) ⟨Nat.le_of_ble_eq_true rfl, Nat.le_of_ble_eq_true rfl⟩) (hp_preV (q := (RX5, TX5, 3)) [.int held] hK hN hW hJ k0 rfl rfl) rfl rfl hl.1 rfl (lv_room (Nat.le_of_ble_eq_true rfl)) dX5_write_65 ⟨Nat.zero_le _, Nat.zero_le _⟩) hJ (fun g85 H locs hp hJ => ?_)
  obtain ⟨P87a, K88⟩ := hp
  obtain ⟨K881, K882, K883, K884, K885, K886, K887, K888⟩ := id K88
  have P87 : hg_P hx_c g g85 := hg_P.tr P79 P87a
  have qt89 : g85 1 1 = g77 1 1 := P87a 1 1 rfl
  have qt90 : g85 11 1 = g77 11 1 := P87a 11 1 rfl
  have qt91 : g85 11 13 = g77 11 13 := P87a 11 13 rfl
  have qt92 : g85 11 22 = g77 11 22 := P87a 11 22 rfl
  refine hq_iconst hx hb dX5_write_68 (by decide) (by decide) (fun z93 ez93 => ?_)
  refine lv_istore (lv' := [(4, .int z93), (0, .ref h0), (1, .int p1), (2, .ref told), (3, .int held)]) hx hb dX5_write_69 hl (by decide) rfl (fun ls hl => ?_)
  have lp96 : ∀ (nlp96 : Nat) (v94 : Int32) (g95 : Nat → Nat → Int) (H : Heap) (locs : List Loc) (ls : Array Slot), (hg_P hx_c g g95) → (hg_k g95) → (4 ≤ v94.toInt) → (v94.toInt ≤ 9) → (10 - v94.toInt < (nlp96 : Int)) → hp_J dC dI dA κ B g95 s.heap H locs → lv_has ls 5 [(0, .ref h0), (1, .int p1), (2, .ref told), (3, .int held), (4, .int v94)] → W p l e (headSpec wsX5_write ({ frames := 3, cells := 0, slots := 0, locals := 67 } : Room)).room s m ([Value.ref h0, Value.int p1, Value.ref told, Value.int held] : List Value).toArray below meth c H locs 0 0 (MQ below (hp_Qv dC dI dA κ B (fun u => hg_P hx_c g u ∧ hg_k u)) ([Value.ref h0, Value.int p1, Value.ref told, Value.int held] : List Value).toArray s 0 0 (hp_A B)) (F0 m 71 ls []) := by
    intro nlp96
    induction nlp96 with
    | zero => intro v94 g95 H locs ls iv98 iv99 iv100 iv101 hm97 hJ hl; exact absurd hm97 (by omega)
    | succ nlp96 ihlp96 =>
      intro v94 g95 H locs ls iv98 iv99 iv100 iv101 hm97 hJ hl
      obtain ⟨hG1, hG2, hG3, hG4, hG5, hG6, hG7, hG8⟩ := id iv99
      refine lv_iload hx hb dX5_write_71 (lv_at hl 4 rfl) ?_
      refine hq_bipush hx hb dX5_write_73 (by decide) (fun z102 ez102 => ?_)
      refine hq_icmp_gt (tgt := 112) hx hb dX5_write_75 (by decide) (fun c103 => ?_) (fun c103 => ?_)
      · refine lv_aload_n hx hb dX5_write_112 rfl (lv_at hl 0 rfl) ?_
        refine hq_iconst hx hb dX5_write_113 (by decide) (by decide) (fun z104 ez104 => ?_)
        refine hq_iconst hx hb dX5_write_114 (by decide) (by decide) (fun z105 ez105 => ?_)
        refine hp_callv (va_runV (As := [.int z104, .int z105]) (rest := []) ⟨hx, hb, hml, hown, hts⟩ (c_X5_putHead l dC dI dA κ B g95 h0 k0 z104 z105 iv99) (cwV 2 hts gX5_write_X5_putHead rfl rfl rfl (by decide +kernel) ⟨Nat.le_of_ble_eq_true rfl, Nat.le_of_ble_eq_true rfl⟩) (hp_preV (q := (RX5, TX5, 3)) [.int z104, .int z105] hK hN hW hJ k0 rfl rfl) rfl rfl hl.1 rfl (lv_room (Nat.le_of_ble_eq_true rfl)) dX5_write_115 ⟨Nat.zero_le _, Nat.zero_le _⟩) hJ (fun g106 H locs hp hJ => ?_)
        obtain ⟨P108a, K109⟩ := hp
        obtain ⟨K1091, K1092, K1093, K1094, K1095, K1096, K1097, K1098⟩ := id K109
        have P108 : hg_P hx_c g g106 := hg_P.tr iv98 P108a
        have qt110 : g106 1 1 = g95 1 1 := P108a 1 1 rfl
        have qt111 : g106 11 1 = g95 11 1 := P108a 11 1 rfl
        have qt112 : g106 11 13 = g95 11 13 := P108a 11 13 rfl
        have qt113 : g106 11 22 = g95 11 22 := P108a 11 22 rfl
        exact hp_vret hx hb hK hN hW hlocks hJ hr ⟨P108, K109⟩ dX5_write_118
      · refine lv_aload_n hx hb dX5_write_78 rfl (lv_at hl 2 rfl) ?_
        refine lv_iload hx hb dX5_write_79 (lv_at hl 4 rfl) ?_
        refine hp_calli (va_runV (As := [.int v94]) (rest := []) ⟨hx, hb, hml, hown, hts⟩ (c_X0_has l dC dI dA κ B g95 told ktold v94) (cwV 1 hts gX5_write_X0_has rfl rfl rfl (by decide +kernel) ⟨Nat.le_of_ble_eq_true rfl, Nat.le_of_ble_eq_true rfl⟩) (hp_preV (q := (RX0, TX0, 2)) [.int v94] hK hN hW hJ ktold rfl rfl) rfl rfl hl.1 rfl (lv_room (Nat.le_of_ble_eq_true rfl)) dX5_write_81 ⟨Nat.zero_le _, Nat.zero_le _⟩) hJ (fun x115 g114 H locs hp hJ => ?_)
        obtain ⟨rfl, f116⟩ := hp
        refine hq_if_eq (tgt := 106) hx hb dX5_write_84 (by decide) (fun c117 => ?_) (fun c117 => ?_)
        · refine hq_iinc (k := 4) (lv' := fun (z9 : Int32) => [(4, .int z9), (0, .ref h0), (1, .int p1), (2, .ref told), (3, .int held)]) hx hb dX5_write_106 hl rfl (by decide) (by decide) (by omega) (by omega) (by decide) (fun _ => rfl) (fun x118 ls ex118 hl => ?_)
          have hl : lv_has ls 5 [(4, .int x118), (0, .ref h0), (1, .int p1), (2, .ref told), (3, .int held)] := hl
          refine lv_goto (tgt := 71) hx hb dX5_write_109 (by decide) ?_
          exact ihlp96 x118 g95 _ _ ls iv98 iv99 (by omega) (by omega) (by omega) hJ (lv_sub hl [1, 2, 3, 4, 0] rfl)
        · refine lv_aload_n hx hb dX5_write_87 rfl (lv_at hl 0 rfl) ?_
          refine lv_iload hx hb dX5_write_88 (lv_at hl 4 rfl) ?_
          refine lv_aload_n hx hb dX5_write_90 rfl (lv_at hl 2 rfl) ?_
          refine lv_iload hx hb dX5_write_91 (lv_at hl 4 rfl) ?_
          refine hp_calli (va_runV (As := [.int v94]) (rest := [.int v94, .ref h0]) ⟨hx, hb, hml, hown, hts⟩ (c_X0_sizeOf l dC dI dA κ B g95 told ktold v94) (cwV 1 hts gX5_write_X0_sizeOf rfl rfl rfl (by decide +kernel) ⟨Nat.le_of_ble_eq_true rfl, Nat.le_of_ble_eq_true rfl⟩) (hp_preV (q := (RX0, TX0, 2)) [.int v94] hK hN hW hJ ktold rfl rfl) rfl rfl hl.1 rfl (lv_room (Nat.le_of_ble_eq_true rfl)) dX5_write_93 ⟨Nat.zero_le _, Nat.zero_le _⟩) hJ (fun x120 g119 H locs hp hJ => ?_)
          obtain ⟨rfl, f121⟩ := hp
          refine hp_callv (va_runV (As := [.int v94, .int x120]) (rest := []) ⟨hx, hb, hml, hown, hts⟩ (c_X5_putHead l dC dI dA κ B g95 h0 k0 v94 x120 iv99) (cwV 2 hts gX5_write_X5_putHead rfl rfl rfl (by decide +kernel) ⟨Nat.le_of_ble_eq_true rfl, Nat.le_of_ble_eq_true rfl⟩) (hp_preV (q := (RX5, TX5, 3)) [.int v94, .int x120] hK hN hW hJ k0 rfl rfl) rfl rfl hl.1 rfl (lv_room (Nat.le_of_ble_eq_true rfl)) dX5_write_96 ⟨Nat.zero_le _, Nat.zero_le _⟩) hJ (fun g122 H locs hp hJ => ?_)
          obtain ⟨P124a, K125⟩ := hp
          obtain ⟨K1251, K1252, K1253, K1254, K1255, K1256, K1257, K1258⟩ := id K125
          have P124 : hg_P hx_c g g122 := hg_P.tr iv98 P124a
          have qt126 : g122 1 1 = g95 1 1 := P124a 1 1 rfl
          have qt127 : g122 11 1 = g95 11 1 := P124a 11 1 rfl
          have qt128 : g122 11 13 = g95 11 13 := P124a 11 13 rfl
          have qt129 : g122 11 22 = g95 11 22 := P124a 11 22 rfl
          refine lv_aload_n hx hb dX5_write_99 rfl (lv_at hl 0 rfl) ?_
          refine lv_iload hx hb dX5_write_100 (lv_at hl 4 rfl) ?_
          refine lv_aload_n hx hb dX5_write_102 rfl (lv_at hl 2 rfl) ?_
          refine hp_callv (va_runV (As := [.int v94, .ref told]) (rest := []) ⟨hx, hb, hml, hown, hts⟩ (c_X5_putContent l dC dI dA κ B g122 h0 k0 v94 told ktold K125) (cwV 2 hts gX5_write_X5_putContent rfl rfl rfl (by decide +kernel) ⟨Nat.le_of_ble_eq_true rfl, Nat.le_of_ble_eq_true rfl⟩) (hp_preV (q := (RX5, TX5, 3)) [.int v94, .ref told] hK hN hW hJ k0 rfl rfl) rfl rfl hl.1 rfl (lv_room (Nat.le_of_ble_eq_true rfl)) dX5_write_103 ⟨Nat.zero_le _, Nat.zero_le _⟩) hJ (fun g130 H locs hp hJ => ?_)
          obtain ⟨P132a, K133⟩ := hp
          obtain ⟨K1331, K1332, K1333, K1334, K1335, K1336, K1337, K1338⟩ := id K133
          have P132 : hg_P hx_c g g130 := hg_P.tr P124 P132a
          have qt134 : g130 1 1 = g122 1 1 := P132a 1 1 rfl
          have qt135 : g130 11 1 = g122 11 1 := P132a 11 1 rfl
          have qt136 : g130 11 13 = g122 11 13 := P132a 11 13 rfl
          have qt137 : g130 11 22 = g122 11 22 := P132a 11 22 rfl
          refine hq_iinc (k := 4) (lv' := fun (z9 : Int32) => [(4, .int z9), (0, .ref h0), (1, .int p1), (2, .ref told), (3, .int held)]) hx hb dX5_write_106 hl rfl (by decide) (by decide) (by omega) (by omega) (by decide) (fun _ => rfl) (fun x138 ls ex138 hl => ?_)
          have hl : lv_has ls 5 [(4, .int x138), (0, .ref h0), (1, .int p1), (2, .ref told), (3, .int held)] := hl
          refine lv_goto (tgt := 71) hx hb dX5_write_109 (by decide) ?_
          exact ihlp96 x138 g130 _ _ ls P132 K133 (by omega) (by omega) (by omega) hJ (lv_sub hl [1, 2, 3, 4, 0] rfl)
  exact lp96 ((10 - z93.toInt).toNat + 1) z93 g85 _ _ ls P87 K88 (by omega) (by omega) (by omega) hJ (lv_sub hl [1, 2, 3, 4, 0] rfl)
end
section
theorem iX3_size_X3 : ∀ w ∈ wsX30, w ∈ wsX3_size := fun _ h => List.mem_cons_of_mem _ (List.mem_append_right _ h)
set_option maxRecDepth 100000 in
set_option maxHeartbeats 4000000 in
theorem c_X3_size (l : Launch) (dC : Nat → ClassId) (dI : Nat → Nat → Nat) (dA : Nat → ClassId) (κ : Nat → Nat) (B : Nat) (g : Nat → Nat → Int) (h0 : Nat) (k0 : κ h0 = 10) : Met l yX3_size wsX3_size ({ frames := 0, cells := 0, slots := 0, locals := 0 } : Room) (hp_Pre dC dI dA κ B g [Value.ref h0]) (hp_Qi dC dI dA κ B (fun r u => g = u ∧ r.toInt = g 10 1)) 0 0 (hp_A B) := by
  refine Met.ofW (cc := cX3_size) (maxL := 1) (ret := (some .int)) (by decide) rfl ?_
  intro p e s m args below meth c s₁ Bd hml hv
  obtain ⟨rfl, hK, hN, hW, hF⟩ := hv
  have hx := Bd.exec
  have hb := Bd.bytes
  have hr := Bd.returns
  have hts := atoms_spec (ws := wsX3_size) Bd.pre
  have hown : s.vm.findClass RX3 = some m.cls := findClass_of_methodNamed Bd.named
  have hlocks := Bd.notSynchronized
  have hJ : hp_J dC dI dA κ B g s.heap s.heap [] := ⟨hF, va_S.rf⟩
  have hl := lv_entry ([Value.ref h0]) (n := 1) (Nat.le_of_ble_eq_true rfl)
  rw [lg_entry_eq]
  generalize (lg_sl ([Value.ref h0]) ++ List.replicate (1 - (lg_sl ([Value.ref h0])).length) Slot.unset).toArray = ls at hl ⊢
  have hl : lv_has ls 1 [(0, .ref h0)] := hl
  refine lv_aload_n hx hb dX3_size_0 rfl (lv_at hl 0 rfl) ?_
  refine hp_geti (C := RX3) (T := TX3) (N := 2) (ci := 3) (kd := 10) hx hb hts iX3_size_X3 hown hK hJ k0 rfl rfl 1 (by decide) (hts (.fieldLink RX3 18 "NeighborBook$Neighbors" "size" "I") (List.mem_of_getElem? (i := 1) rfl)) (fun _ h9 => h9) rfl rfl dX3_size_1 (fun x1 ex1 => ?_)
  have ex1 : x1.toInt = g 10 1 := ex1
  exact hp_iret hx hb hK hN hW hlocks hJ hr ⟨rfl, by omega⟩ dX3_size_4
theorem iX3_has_X3 : ∀ w ∈ wsX30, w ∈ wsX3_has := fun _ h => List.mem_cons_of_mem _ (List.mem_append_right _ h)
set_option maxRecDepth 100000 in
set_option maxHeartbeats 4000000 in
theorem c_X3_has (l : Launch) (dC : Nat → ClassId) (dI : Nat → Nat → Nat) (dA : Nat → ClassId) (κ : Nat → Nat) (B : Nat) (g : Nat → Nat → Int) (h0 : Nat) (k0 : κ h0 = 10) (i : Int32) : Met l yX3_has wsX3_has ({ frames := 0, cells := 0, slots := 0, locals := 0 } : Room) (hp_Pre dC dI dA κ B g [Value.ref h0, Value.int i]) (hp_Qi dC dI dA κ B (fun r u => g = u ∧ ((r.toInt = 1 ∧ 0 ≤ i.toInt ∧ i.toInt < g 10 1) ∨ (r.toInt = 0 ∧ (i.toInt < 0 ∨ g 10 1 ≤ i.toInt))))) 0 0 (hp_A B) := by
  refine Met.ofW (cc := cX3_has) (maxL := 2) (ret := (some .boolean)) (by decide) rfl ?_
  intro p e s m args below meth c s₁ Bd hml hv
  obtain ⟨rfl, hK, hN, hW, hF⟩ := hv
  have hx := Bd.exec
  have hb := Bd.bytes
  have hr := Bd.returns
  have hts := atoms_spec (ws := wsX3_has) Bd.pre
  have hown : s.vm.findClass RX3 = some m.cls := findClass_of_methodNamed Bd.named
  have hlocks := Bd.notSynchronized
  have hJ : hp_J dC dI dA κ B g s.heap s.heap [] := ⟨hF, va_S.rf⟩
  have hl := lv_entry ([Value.ref h0, Value.int i]) (n := 2) (Nat.le_of_ble_eq_true rfl)
  rw [lg_entry_eq]
  generalize (lg_sl ([Value.ref h0, Value.int i]) ++ List.replicate (2 - (lg_sl ([Value.ref h0, Value.int i])).length) Slot.unset).toArray = ls at hl ⊢
  have hl : lv_has ls 2 [(0, .ref h0), (1, .int i)] := hl
  refine lv_iload_n hx hb dX3_has_0 rfl (lv_at hl 1 rfl) ?_
  refine hq_if_lt (tgt := 16) hx hb dX3_has_1 (by decide) (fun c1 => ?_) (fun c1 => ?_)
  · refine hq_iconst hx hb dX3_has_16 (by decide) (by decide) (fun z2 ez2 => ?_)
    exact hp_zret hx hb hK hN hW hlocks hJ hr (by omega) ⟨rfl, by omega⟩ dX3_has_17
  · refine lv_iload_n hx hb dX3_has_4 rfl (lv_at hl 1 rfl) ?_
    refine lv_aload_n hx hb dX3_has_5 rfl (lv_at hl 0 rfl) ?_
    refine hp_geti (C := RX3) (T := TX3) (N := 2) (ci := 3) (kd := 10) hx hb hts iX3_has_X3 hown hK hJ k0 rfl rfl 1 (by decide) (hts (.fieldLink RX3 18 "NeighborBook$Neighbors" "size" "I") (List.mem_of_getElem? (i := 1) rfl)) (fun _ h9 => h9) rfl rfl dX3_has_6 (fun x3 ex3 => ?_)
    have ex3 : x3.toInt = g 10 1 := ex3
    refine hq_icmp_ge (tgt := 16) hx hb dX3_has_9 (by decide) (fun c4 => ?_) (fun c4 => ?_)
    · refine hq_iconst hx hb dX3_has_16 (by decide) (by decide) (fun z5 ez5 => ?_)
      exact hp_zret hx hb hK hN hW hlocks hJ hr (by omega) ⟨rfl, by omega⟩ dX3_has_17
    · refine hq_iconst hx hb dX3_has_12 (by decide) (by decide) (fun z6 ez6 => ?_)
      refine lv_goto (tgt := 17) hx hb dX3_has_13 (by decide) ?_
      exact hp_zret hx hb hK hN hW hlocks hJ hr (by omega) ⟨rfl, by omega⟩ dX3_has_17
theorem iX3_at_X3 : ∀ w ∈ wsX30, w ∈ wsX3_at := fun _ h => List.mem_cons_of_mem _ (List.mem_append_right _ h)
set_option maxRecDepth 100000 in
set_option maxHeartbeats 4000000 in
theorem c_X3_at (l : Launch) (dC : Nat → ClassId) (dI : Nat → Nat → Nat) (dA : Nat → ClassId) (κ : Nat → Nat) (B : Nat) (g : Nat → Nat → Int) (h0 : Nat) (k0 : κ h0 = 10) (i : Int32) (hi0 : 0 ≤ i.toInt) (hi1 : i.toInt < 12) : Met l yX3_at wsX3_at ({ frames := 0, cells := 0, slots := 0, locals := 0 } : Room) (hp_Pre dC dI dA κ B g [Value.ref h0, Value.int i]) (hp_Qr dC dI dA κ B 9 (fun u => g = u)) 0 0 (hp_A B) := by
  refine Met.ofW (cc := cX3_at) (maxL := 2) (ret := (some (.object "NeighborBook$Neighbor"))) (by decide) rfl ?_
  intro p e s m args below meth c s₁ Bd hml hv
  obtain ⟨rfl, hK, hN, hW, hF⟩ := hv
  have hx := Bd.exec
  have hb := Bd.bytes
  have hr := Bd.returns
  have hts := atoms_spec (ws := wsX3_at) Bd.pre
  have hown : s.vm.findClass RX3 = some m.cls := findClass_of_methodNamed Bd.named
  have hlocks := Bd.notSynchronized
  have hJ : hp_J dC dI dA κ B g s.heap s.heap [] := ⟨hF, va_S.rf⟩
  have hl := lv_entry ([Value.ref h0, Value.int i]) (n := 2) (Nat.le_of_ble_eq_true rfl)
  rw [lg_entry_eq]
  generalize (lg_sl ([Value.ref h0, Value.int i]) ++ List.replicate (2 - (lg_sl ([Value.ref h0, Value.int i])).length) Slot.unset).toArray = ls at hl ⊢
  have hl : lv_has ls 2 [(0, .ref h0), (1, .int i)] := hl
  refine lv_aload_n hx hb dX3_at_0 rfl (lv_at hl 0 rfl) ?_
  refine hp_getr (C := RX3) (T := TX3) (N := 2) (ci := 3) (kd := 10) hx hb hts iX3_at_X3 hown hK hJ k0 rfl rfl 0 (by decide) (hts (.fieldLink RX3 11 "NeighborBook$Neighbors" "rows" "[LNeighborBook$Neighbor;") (List.mem_of_getElem? (i := 1) rfl)) (fun _ h9 => h9) rfl dX3_at_1 (fun b1 kb1 => ?_)
  refine lv_iload_n hx hb dX3_at_4 rfl (lv_at hl 1 rfl) ?_
  refine hp_aald4 (kd := 16) (n := 12) hx hb hK hJ kb1 rfl (by omega) (by omega) rfl dX3_at_5 (fun b2 kb2 => ?_)
  exact hp_aret hx hb hK hN hW hlocks hJ hr kb2 rfl dX3_at_6
theorem iX3_sizeAt_X3 : ∀ w ∈ wsX30, w ∈ wsX3_sizeAt := fun _ h => List.mem_cons_of_mem _ (List.mem_append_left _ (List.mem_append_right _ h))
theorem iX3_sizeAt_X2 : ∀ w ∈ wsX20, w ∈ wsX3_sizeAt := fun _ h => List.mem_cons_of_mem _ (List.mem_append_right _ h)
set_option maxRecDepth 100000 in
set_option maxHeartbeats 4000000 in
theorem c_X3_sizeAt (l : Launch) (dC : Nat → ClassId) (dI : Nat → Nat → Nat) (dA : Nat → ClassId) (κ : Nat → Nat) (B : Nat) (g : Nat → Nat → Int) (h0 : Nat) (k0 : κ h0 = 10) (p1 : Int32) (hG : hg_k g) : Met l yX3_sizeAt wsX3_sizeAt ({ frames := 1, cells := 0, slots := 0, locals := 20 } : Room) (hp_Pre dC dI dA κ B g [Value.ref h0, Value.int p1]) (hp_Qi dC dI dA κ B (fun r u => g = u ∧ (g 10 1 = 0 → r.toInt = 0))) 0 0 (hp_A B) := by
  refine Met.ofW (cc := cX3_sizeAt) (maxL := 4) (ret := (some .int)) (by decide) rfl ?_
  intro p e s m args below meth c s₁ Bd hml hv
  obtain ⟨rfl, hK, hN, hW, hF⟩ := hv
  have hx := Bd.exec
  have hb := Bd.bytes
  have hr := Bd.returns
  have hts := atoms_spec (ws := wsX3_sizeAt) Bd.pre
  have hown : s.vm.findClass RX3 = some m.cls := findClass_of_methodNamed Bd.named
  have hlocks := Bd.notSynchronized
  have hJ : hp_J dC dI dA κ B g s.heap s.heap [] := ⟨hF, va_S.rf⟩
  have hl := lv_entry ([Value.ref h0, Value.int p1]) (n := 4) (Nat.le_of_ble_eq_true rfl)
  rw [lg_entry_eq]
  generalize (lg_sl ([Value.ref h0, Value.int p1]) ++ List.replicate (4 - (lg_sl ([Value.ref h0, Value.int p1])).length) Slot.unset).toArray = ls at hl ⊢
  have hl : lv_has ls 4 [(0, .ref h0), (1, .int p1)] := hl
  obtain ⟨hG1, hG2, hG3, hG4, hG5, hG6, hG7, hG8⟩ := id hG
  refine hq_iconst hx hb dX3_sizeAt_0 (by decide) (by decide) (fun z1 ez1 => ?_)
  refine lv_istore_n (lv' := [(2, .int z1), (0, .ref h0), (1, .int p1)]) hx hb dX3_sizeAt_1 rfl hl (by decide) rfl (fun ls hl => ?_)
  refine hq_iconst hx hb dX3_sizeAt_2 (by decide) (by decide) (fun z2 ez2 => ?_)
  refine lv_istore_n (lv' := [(3, .int z2), (2, .int z1), (0, .ref h0), (1, .int p1)]) hx hb dX3_sizeAt_3 rfl hl (by decide) rfl (fun ls hl => ?_)
  have lp5 : ∀ (nlp5 : Nat) (v3 : Int32) (v4 : Int32) (H : Heap) (locs : List Loc) (ls : Array Slot), (0 ≤ v4.toInt) → (0 ≤ v3.toInt) → (v3.toInt ≤ v4.toInt) → (v4.toInt ≤ g 10 1) → (13 - v4.toInt < (nlp5 : Int)) → hp_J dC dI dA κ B g s.heap H locs → lv_has ls 4 [(0, .ref h0), (1, .int p1), (2, .int v3), (3, .int v4)] → W p l e (headSpec wsX3_sizeAt ({ frames := 1, cells := 0, slots := 0, locals := 20 } : Room)).room s m ([Value.ref h0, Value.int p1] : List Value).toArray below meth c H locs 0 0 (MQ below (hp_Qi dC dI dA κ B (fun r u => g = u ∧ (g 10 1 = 0 → r.toInt = 0))) ([Value.ref h0, Value.int p1] : List Value).toArray s 0 0 (hp_A B)) (F0 m 4 ls []) := by
    intro nlp5
    induction nlp5 with
    | zero => intro v3 v4 H locs ls iv7 iv8 iv9 iv10 hm6 hJ hl; exact absurd hm6 (by omega)
    | succ nlp5 ihlp5 =>
      intro v3 v4 H locs ls iv7 iv8 iv9 iv10 hm6 hJ hl
      refine lv_iload_n hx hb dX3_sizeAt_4 rfl (lv_at hl 3 rfl) ?_
      refine lv_aload_n hx hb dX3_sizeAt_5 rfl (lv_at hl 0 rfl) ?_
      refine hp_geti (C := RX3) (T := TX3) (N := 2) (ci := 3) (kd := 10) hx hb hts iX3_sizeAt_X3 hown hK hJ k0 rfl rfl 1 (by decide) (hts (.fieldLink RX3 18 "NeighborBook$Neighbors" "size" "I") (List.mem_of_getElem? (i := 1) rfl)) (fun _ h9 => h9) rfl rfl dX3_sizeAt_6 (fun x11 ex11 => ?_)
      have ex11 : x11.toInt = g 10 1 := ex11
      refine hq_icmp_ge (tgt := 34) hx hb dX3_sizeAt_9 (by decide) (fun c12 => ?_) (fun c12 => ?_)
      · refine lv_iload_n hx hb dX3_sizeAt_34 rfl (lv_at hl 2 rfl) ?_
        exact hp_iret hx hb hK hN hW hlocks hJ hr ⟨rfl, by omega⟩ dX3_sizeAt_35
      · refine lv_aload_n hx hb dX3_sizeAt_12 rfl (lv_at hl 0 rfl) ?_
        refine hp_getr (C := RX3) (T := TX3) (N := 2) (ci := 3) (kd := 10) hx hb hts iX3_sizeAt_X3 hown hK hJ k0 rfl rfl 0 (by decide) (hts (.fieldLink RX3 11 "NeighborBook$Neighbors" "rows" "[LNeighborBook$Neighbor;") (List.mem_of_getElem? (i := 2) rfl)) (fun _ h9 => h9) rfl dX3_sizeAt_13 (fun b13 kb13 => ?_)
        refine lv_iload_n hx hb dX3_sizeAt_16 rfl (lv_at hl 3 rfl) ?_
        refine hp_aald4 (kd := 16) (n := 12) hx hb hK hJ kb13 rfl (by omega) (by omega) rfl dX3_sizeAt_17 (fun b14 kb14 => ?_)
        refine hp_calli (va_runV (As := []) (rest := []) ⟨hx, hb, hml, hown, hts⟩ (c_X2_portOf l dC dI dA κ B g b14 kb14) (cwV 0 hts gX3_sizeAt_X2_portOf rfl rfl rfl (by decide +kernel) ⟨Nat.le_of_ble_eq_true rfl, Nat.le_of_ble_eq_true rfl⟩) (hp_preV (q := (RX2, TX2, 4)) [] hK hN hW hJ kb14 rfl rfl) rfl rfl hl.1 rfl (lv_room (Nat.le_of_ble_eq_true rfl)) dX3_sizeAt_18 ⟨Nat.zero_le _, Nat.zero_le _⟩) hJ (fun x16 g15 H locs hp hJ => ?_)
        subst hp
        refine lv_iload_n hx hb dX3_sizeAt_21 rfl (lv_at hl 1 rfl) ?_
        refine hq_icmp_ne (tgt := 28) hx hb dX3_sizeAt_22 (by decide) (fun c17 => ?_) (fun c17 => ?_)
        · refine hq_iinc (k := 3) (lv' := fun (z9 : Int32) => [(3, .int z9), (0, .ref h0), (1, .int p1), (2, .int v3)]) hx hb dX3_sizeAt_28 hl rfl (by decide) (by decide) (by omega) (by omega) (by decide) (fun _ => rfl) (fun x18 ls ex18 hl => ?_)
          have hl : lv_has ls 4 [(3, .int x18), (0, .ref h0), (1, .int p1), (2, .int v3)] := hl
          refine lv_goto (tgt := 4) hx hb dX3_sizeAt_31 (by decide) ?_
          exact ihlp5 v3 x18 _ _ ls (by omega) (by omega) (by omega) (by omega) (by omega) hJ (lv_sub hl [1, 2, 3, 0] rfl)
        · refine hq_iinc (k := 2) (lv' := fun (z9 : Int32) => [(2, .int z9), (0, .ref h0), (1, .int p1), (3, .int v4)]) hx hb dX3_sizeAt_25 hl rfl (by decide) (by decide) (by omega) (by omega) (by decide) (fun _ => rfl) (fun x19 ls ex19 hl => ?_)
          have hl : lv_has ls 4 [(2, .int x19), (0, .ref h0), (1, .int p1), (3, .int v4)] := hl
          refine hq_iinc (k := 3) (lv' := fun (z9 : Int32) => [(3, .int z9), (2, .int x19), (0, .ref h0), (1, .int p1)]) hx hb dX3_sizeAt_28 hl rfl (by decide) (by decide) (by omega) (by omega) (by decide) (fun _ => rfl) (fun x20 ls ex20 hl => ?_)
          have hl : lv_has ls 4 [(3, .int x20), (2, .int x19), (0, .ref h0), (1, .int p1)] := hl
          refine lv_goto (tgt := 4) hx hb dX3_sizeAt_31 (by decide) ?_
          exact ihlp5 x19 x20 _ _ ls (by omega) (by omega) (by omega) (by omega) (by omega) hJ (lv_sub hl [2, 3, 1, 0] rfl)
  exact lp5 ((13 - z2.toInt).toNat + 1) z1 z2 _ _ ls (by omega) (by omega) (by omega) (by omega) (by omega) hJ (lv_sub hl [2, 3, 1, 0] rfl)
theorem iX3_find_X3 : ∀ w ∈ wsX30, w ∈ wsX3_find := fun _ h => List.mem_cons_of_mem _ (List.mem_append_left _ (List.mem_append_left _ (List.mem_append_right _ h)))
theorem iX3_find_X2 : ∀ w ∈ wsX20, w ∈ wsX3_find := fun _ h => List.mem_cons_of_mem _ (List.mem_append_left _ (List.mem_append_right _ h))
theorem iX3_find_X0 : ∀ w ∈ wsX00, w ∈ wsX3_find := fun _ h => List.mem_cons_of_mem _ (List.mem_append_right _ h)
set_option maxRecDepth 100000 in
set_option maxHeartbeats 4000000 in
theorem c_X3_find (l : Launch) (dC : Nat → ClassId) (dI : Nat → Nat → Nat) (dA : Nat → ClassId) (κ : Nat → Nat) (B : Nat) (g : Nat → Nat → Int) (h0 : Nat) (k0 : κ h0 = 10) (p1 : Int32) (heard : Nat) (kheard : κ heard = 2) (hG : hg_k g) : Met l yX3_find wsX3_find ({ frames := 3, cells := 0, slots := 0, locals := 68 } : Room) (hp_Pre dC dI dA κ B g [Value.ref h0, Value.int p1, Value.ref heard]) (hp_Qi dC dI dA κ B (fun r u => g = u ∧ -1 ≤ r.toInt ∧ r.toInt < 12 ∧ r.toInt < g 10 1)) 0 0 (hp_A B) := by
  refine Met.ofW (cc := cX3_find) (maxL := 4) (ret := (some .int)) (by decide) rfl ?_
  intro p e s m args below meth c s₁ Bd hml hv
  obtain ⟨rfl, hK, hN, hW, hF⟩ := hv
  have hx := Bd.exec
  have hb := Bd.bytes
  have hr := Bd.returns
  have hts := atoms_spec (ws := wsX3_find) Bd.pre
  have hown : s.vm.findClass RX3 = some m.cls := findClass_of_methodNamed Bd.named
  have hlocks := Bd.notSynchronized
  have hJ : hp_J dC dI dA κ B g s.heap s.heap [] := ⟨hF, va_S.rf⟩
  have hl := lv_entry ([Value.ref h0, Value.int p1, Value.ref heard]) (n := 4) (Nat.le_of_ble_eq_true rfl)
  rw [lg_entry_eq]
  generalize (lg_sl ([Value.ref h0, Value.int p1, Value.ref heard]) ++ List.replicate (4 - (lg_sl ([Value.ref h0, Value.int p1, Value.ref heard])).length) Slot.unset).toArray = ls at hl ⊢
  have hl : lv_has ls 4 [(0, .ref h0), (1, .int p1), (2, .ref heard)] := hl
  obtain ⟨hG1, hG2, hG3, hG4, hG5, hG6, hG7, hG8⟩ := id hG
  refine hq_iconst hx hb dX3_find_0 (by decide) (by decide) (fun z1 ez1 => ?_)
  refine lv_istore_n (lv' := [(3, .int z1), (0, .ref h0), (1, .int p1), (2, .ref heard)]) hx hb dX3_find_1 rfl hl (by decide) rfl (fun ls hl => ?_)
  have lp3 : ∀ (nlp3 : Nat) (v2 : Int32) (H : Heap) (locs : List Loc) (ls : Array Slot), (0 ≤ v2.toInt) → (v2.toInt ≤ 12) → (13 - v2.toInt < (nlp3 : Int)) → hp_J dC dI dA κ B g s.heap H locs → lv_has ls 4 [(0, .ref h0), (1, .int p1), (2, .ref heard), (3, .int v2)] → W p l e (headSpec wsX3_find ({ frames := 3, cells := 0, slots := 0, locals := 68 } : Room)).room s m ([Value.ref h0, Value.int p1, Value.ref heard] : List Value).toArray below meth c H locs 0 0 (MQ below (hp_Qi dC dI dA κ B (fun r u => g = u ∧ -1 ≤ r.toInt ∧ r.toInt < 12 ∧ r.toInt < g 10 1)) ([Value.ref h0, Value.int p1, Value.ref heard] : List Value).toArray s 0 0 (hp_A B)) (F0 m 2 ls []) := by
    intro nlp3
    induction nlp3 with
    | zero => intro v2 H locs ls iv5 iv6 hm4 hJ hl; exact absurd hm4 (by omega)
    | succ nlp3 ihlp3 =>
      intro v2 H locs ls iv5 iv6 hm4 hJ hl
      refine lv_iload_n hx hb dX3_find_2 rfl (lv_at hl 3 rfl) ?_
      refine lv_aload_n hx hb dX3_find_3 rfl (lv_at hl 0 rfl) ?_
      refine hp_geti (C := RX3) (T := TX3) (N := 2) (ci := 3) (kd := 10) hx hb hts iX3_find_X3 hown hK hJ k0 rfl rfl 1 (by decide) (hts (.fieldLink RX3 18 "NeighborBook$Neighbors" "size" "I") (List.mem_of_getElem? (i := 1) rfl)) (fun _ h9 => h9) rfl rfl dX3_find_4 (fun x7 ex7 => ?_)
      have ex7 : x7.toInt = g 10 1 := ex7
      refine hq_icmp_ge (tgt := 47) hx hb dX3_find_7 (by decide) (fun c8 => ?_) (fun c8 => ?_)
      · refine hq_iconst hx hb dX3_find_47 (by decide) (by decide) (fun z9 ez9 => ?_)
        exact hp_iret hx hb hK hN hW hlocks hJ hr ⟨rfl, by omega⟩ dX3_find_48
      · refine lv_aload_n hx hb dX3_find_10 rfl (lv_at hl 0 rfl) ?_
        refine hp_getr (C := RX3) (T := TX3) (N := 2) (ci := 3) (kd := 10) hx hb hts iX3_find_X3 hown hK hJ k0 rfl rfl 0 (by decide) (hts (.fieldLink RX3 11 "NeighborBook$Neighbors" "rows" "[LNeighborBook$Neighbor;") (List.mem_of_getElem? (i := 2) rfl)) (fun _ h9 => h9) rfl dX3_find_11 (fun b10 kb10 => ?_)
        refine lv_iload_n hx hb dX3_find_14 rfl (lv_at hl 3 rfl) ?_
        refine hp_aald4 (kd := 16) (n := 12) hx hb hK hJ kb10 rfl (by omega) (by omega) rfl dX3_find_15 (fun b11 kb11 => ?_)
        refine hp_calli (va_runV (As := []) (rest := []) ⟨hx, hb, hml, hown, hts⟩ (c_X2_portOf l dC dI dA κ B g b11 kb11) (cwV 0 hts gX3_find_X2_portOf rfl rfl rfl (by decide +kernel) ⟨Nat.le_of_ble_eq_true rfl, Nat.le_of_ble_eq_true rfl⟩) (hp_preV (q := (RX2, TX2, 4)) [] hK hN hW hJ kb11 rfl rfl) rfl rfl hl.1 rfl (lv_room (Nat.le_of_ble_eq_true rfl)) dX3_find_16 ⟨Nat.zero_le _, Nat.zero_le _⟩) hJ (fun x13 g12 H locs hp hJ => ?_)
        subst hp
        refine lv_iload_n hx hb dX3_find_19 rfl (lv_at hl 1 rfl) ?_
        refine hq_icmp_ne (tgt := 41) hx hb dX3_find_20 (by decide) (fun c14 => ?_) (fun c14 => ?_)
        · refine hq_iinc (k := 3) (lv' := fun (z9 : Int32) => [(3, .int z9), (0, .ref h0), (1, .int p1), (2, .ref heard)]) hx hb dX3_find_41 hl rfl (by decide) (by decide) (by omega) (by omega) (by decide) (fun _ => rfl) (fun x15 ls ex15 hl => ?_)
          have hl : lv_has ls 4 [(3, .int x15), (0, .ref h0), (1, .int p1), (2, .ref heard)] := hl
          refine lv_goto (tgt := 2) hx hb dX3_find_44 (by decide) ?_
          exact ihlp3 x15 _ _ ls (by omega) (by omega) (by omega) hJ (lv_sub hl [1, 2, 3, 0] rfl)
        · refine lv_aload_n hx hb dX3_find_23 rfl (lv_at hl 0 rfl) ?_
          refine hp_getr (C := RX3) (T := TX3) (N := 2) (ci := 3) (kd := 10) hx hb hts iX3_find_X3 hown hK hJ k0 rfl rfl 0 (by decide) (hts (.fieldLink RX3 11 "NeighborBook$Neighbors" "rows" "[LNeighborBook$Neighbor;") (List.mem_of_getElem? (i := 2) rfl)) (fun _ h9 => h9) rfl dX3_find_24 (fun b16 kb16 => ?_)
          refine lv_iload_n hx hb dX3_find_27 rfl (lv_at hl 3 rfl) ?_
          refine hp_aald4 (kd := 16) (n := 12) hx hb hK hJ kb16 rfl (by omega) (by omega) rfl dX3_find_28 (fun b17 kb17 => ?_)
          refine hp_callr (va_runV (As := []) (rest := []) ⟨hx, hb, hml, hown, hts⟩ (c_X2_contents l dC dI dA κ B g b17 kb17) (cwV 0 hts gX3_find_X2_contents rfl rfl rfl (by decide +kernel) ⟨Nat.le_of_ble_eq_true rfl, Nat.le_of_ble_eq_true rfl⟩) (hp_preV (q := (RX2, TX2, 4)) [] hK hN hW hJ kb17 rfl rfl) rfl rfl hl.1 rfl (lv_room (Nat.le_of_ble_eq_true rfl)) dX3_find_29 ⟨Nat.zero_le _, Nat.zero_le _⟩) hJ (fun b19 g18 H locs kb19 hp hJ => ?_)
          subst hp
          refine lv_aload_n hx hb dX3_find_32 rfl (lv_at hl 2 rfl) ?_
          refine hp_calli (va_runV (As := [.ref heard]) (rest := []) ⟨hx, hb, hml, hown, hts⟩ (c_X0_isSameStation l dC dI dA κ B g b19 kb19 heard kheard) (cwV 1 hts gX3_find_X0_isSameStation rfl rfl rfl (by decide +kernel) ⟨Nat.le_of_ble_eq_true rfl, Nat.le_of_ble_eq_true rfl⟩) (hp_preV (q := (RX0, TX0, 2)) [.ref heard] hK hN hW hJ kb19 rfl rfl) rfl rfl hl.1 rfl (lv_room (Nat.le_of_ble_eq_true rfl)) dX3_find_33 ⟨Nat.zero_le _, Nat.zero_le _⟩) hJ (fun x21 g20 H locs hp hJ => ?_)
          obtain ⟨rfl, f22⟩ := hp
          refine hq_if_eq (tgt := 41) hx hb dX3_find_36 (by decide) (fun c23 => ?_) (fun c23 => ?_)
          · refine hq_iinc (k := 3) (lv' := fun (z9 : Int32) => [(3, .int z9), (0, .ref h0), (1, .int p1), (2, .ref heard)]) hx hb dX3_find_41 hl rfl (by decide) (by decide) (by omega) (by omega) (by decide) (fun _ => rfl) (fun x24 ls ex24 hl => ?_)
            have hl : lv_has ls 4 [(3, .int x24), (0, .ref h0), (1, .int p1), (2, .ref heard)] := hl
            refine lv_goto (tgt := 2) hx hb dX3_find_44 (by decide) ?_
            exact ihlp3 x24 _ _ ls (by omega) (by omega) (by omega) hJ (lv_sub hl [1, 2, 3, 0] rfl)
          · refine lv_iload_n hx hb dX3_find_39 rfl (lv_at hl 3 rfl) ?_
            exact hp_iret hx hb hK hN hW hlocks hJ hr ⟨rfl, by omega⟩ dX3_find_40
  exact lp3 ((13 - z1.toInt).toNat + 1) z1 _ _ ls (by omega) (by omega) (by omega) hJ (lv_sub hl [1, 2, 3, 0] rfl)
theorem iX3_add_X3 : ∀ w ∈ wsX30, w ∈ wsX3_add := fun _ h => List.mem_cons_of_mem _ (List.mem_append_left _ (List.mem_append_right _ h))
theorem iX3_add_X2 : ∀ w ∈ wsX20, w ∈ wsX3_add := fun _ h => List.mem_cons_of_mem _ (List.mem_append_right _ h)
set_option maxRecDepth 100000 in
set_option maxHeartbeats 4000000 in
theorem c_X3_add (l : Launch) (dC : Nat → ClassId) (dI : Nat → Nat → Nat) (dA : Nat → ClassId) (κ : Nat → Nat) (B : Nat) (g : Nat → Nat → Int) (h0 : Nat) (k0 : κ h0 = 10) (p1 : Int32) (hG : hg_k g) : Met l yX3_add wsX3_add ({ frames := 1, cells := 0, slots := 0, locals := 21 } : Room) (hp_Pre dC dI dA κ B g [Value.ref h0, Value.int p1]) (hp_Qi dC dI dA κ B (fun r u => hg_P hx_c g u ∧ hg_k u ∧ -1 ≤ r.toInt ∧ r.toInt < 12)) 0 0 (hp_A B) := by
  refine Met.ofW (cc := cX3_add) (maxL := 3) (ret := (some .int)) (by decide) rfl ?_
  intro p e s m args below meth c s₁ Bd hml hv
  obtain ⟨rfl, hK, hN, hW, hF⟩ := hv
  have hx := Bd.exec
  have hb := Bd.bytes
  have hr := Bd.returns
  have hts := atoms_spec (ws := wsX3_add) Bd.pre
  have hown : s.vm.findClass RX3 = some m.cls := findClass_of_methodNamed Bd.named
  have hlocks := Bd.notSynchronized
  have hJ : hp_J dC dI dA κ B g s.heap s.heap [] := ⟨hF, va_S.rf⟩
  have hl := lv_entry ([Value.ref h0, Value.int p1]) (n := 3) (Nat.le_of_ble_eq_true rfl)
  rw [lg_entry_eq]
  generalize (lg_sl ([Value.ref h0, Value.int p1]) ++ List.replicate (3 - (lg_sl ([Value.ref h0, Value.int p1])).length) Slot.unset).toArray = ls at hl ⊢
  have hl : lv_has ls 3 [(0, .ref h0), (1, .int p1)] := hl
  obtain ⟨hG1, hG2, hG3, hG4, hG5, hG6, hG7, hG8⟩ := id hG
  refine lv_aload_n hx hb dX3_add_0 rfl (lv_at hl 0 rfl) ?_
  refine hp_geti (C := RX3) (T := TX3) (N := 2) (ci := 3) (kd := 10) hx hb hts iX3_add_X3 hown hK hJ k0 rfl rfl 1 (by decide) (hts (.fieldLink RX3 18 "NeighborBook$Neighbors" "size" "I") (List.mem_of_getElem? (i := 1) rfl)) (fun _ h9 => h9) rfl rfl dX3_add_1 (fun x1 ex1 => ?_)
  have ex1 : x1.toInt = g 10 1 := ex1
  refine hq_bipush hx hb dX3_add_4 (by decide) (fun z2 ez2 => ?_)
  refine hq_icmp_lt (tgt := 11) hx hb dX3_add_6 (by decide) (fun c3 => ?_) (fun c3 => ?_)
  · refine lv_aload_n hx hb dX3_add_11 rfl (lv_at hl 0 rfl) ?_
    refine hp_geti (C := RX3) (T := TX3) (N := 2) (ci := 3) (kd := 10) hx hb hts iX3_add_X3 hown hK hJ k0 rfl rfl 1 (by decide) (hts (.fieldLink RX3 18 "NeighborBook$Neighbors" "size" "I") (List.mem_of_getElem? (i := 1) rfl)) (fun _ h9 => h9) rfl rfl dX3_add_12 (fun x4 ex4 => ?_)
    have ex4 : x4.toInt = g 10 1 := ex4
    refine lv_istore_n (lv' := [(2, .int x4), (0, .ref h0), (1, .int p1)]) hx hb dX3_add_15 rfl hl (by decide) rfl (fun ls hl => ?_)
    refine lv_aload_n hx hb dX3_add_16 rfl (lv_at hl 1 rfl) ?_
    refine hp_getr (C := RX3) (T := TX3) (N := 2) (ci := 3) (kd := 10) hx hb hts iX3_add_X3 hown hK hJ k0 rfl rfl 0 (by decide) (hts (.fieldLink RX3 11 "NeighborBook$Neighbors" "rows" "[LNeighborBook$Neighbor;") (List.mem_of_getElem? (i := 2) rfl)) (fun _ h9 => h9) rfl dX3_add_17 (fun b5 kb5 => ?_)
    refine lv_iload_n hx hb dX3_add_20 rfl (lv_at hl 0 rfl) ?_
    refine hp_aald4 (kd := 16) (n := 12) hx hb hK hJ kb5 rfl (by omega) (by omega) rfl dX3_add_21 (fun b6 kb6 => ?_)
    refine lv_iload_n hx hb dX3_add_22 rfl (lv_at hl 2 rfl) ?_
    refine hp_callv (va_runV (As := [.int p1]) (rest := []) ⟨hx, hb, hml, hown, hts⟩ (c_X2_begin l dC dI dA κ B g b6 kb6 p1) (cwV 1 hts gX3_add_X2_begin rfl rfl rfl (by decide +kernel) ⟨Nat.le_of_ble_eq_true rfl, Nat.le_of_ble_eq_true rfl⟩) (hp_preV (q := (RX2, TX2, 4)) [.int p1] hK hN hW hJ kb6 rfl rfl) rfl rfl hl.1 rfl (lv_room (Nat.le_of_ble_eq_true rfl)) dX3_add_23 ⟨Nat.zero_le _, Nat.zero_le _⟩) hJ (fun g7 H locs hp hJ => ?_)
    subst hp
    refine lv_aload_n hx hb dX3_add_26 rfl (lv_at hl 1 rfl) ?_
    refine lv_dup hx hb dX3_add_27 rfl ?_
    refine hp_geti (C := RX3) (T := TX3) (N := 2) (ci := 3) (kd := 10) hx hb hts iX3_add_X3 hown hK hJ k0 rfl rfl 1 (by decide) (hts (.fieldLink RX3 18 "NeighborBook$Neighbors" "size" "I") (List.mem_of_getElem? (i := 1) rfl)) (fun _ h9 => h9) rfl rfl dX3_add_28 (fun x8 ex8 => ?_)
    have ex8 : x8.toInt = g 10 1 := ex8
    refine hq_iconst hx hb dX3_add_31 (by decide) (by decide) (fun z9 ez9 => ?_)
    refine hq_iadd hx hb dX3_add_32 (by omega) (by omega) (fun x10 ex10 => ?_)
    refine hp_putx (C := RX3) (T := TX3) (N := 2) (ci := 3) (kd := 10) hx hb hts iX3_add_X3 hown hK hJ k0 rfl rfl 1 (by decide) (hts (.fieldLink RX3 18 "NeighborBook$Neighbors" "size" "I") (List.mem_of_getElem? (i := 1) rfl)) (fun _ h9 => h9) tyX3 tyX3_ok nmX3 (x := x10) rfl rfl (by decide) hW rfl rfl rfl dX3_add_33 (fun g11 H locs eg11 ng11 hJ => ?_)
    have eg11 : g11 10 1 = x10.toInt := eg11
    have P12 : hg_P hx_c g g11 := hg_P.put hg_P.rf ng11 rfl
    have tt13 : g11 1 1 = g 1 1 := ng11 1 1 (by decide)
    have tt14 : g11 4 1 = g 4 1 := ng11 4 1 (by decide)
    refine lv_iload_n hx hb dX3_add_36 rfl (lv_at hl 0 rfl) ?_
    exact hp_iret hx hb hK hN hW hlocks hJ hr ⟨P12, (hg_k.ofc hG P12 (by constructor <;> omega) (by constructor <;> omega) ), by omega⟩ dX3_add_37
  · refine hq_iconst hx hb dX3_add_9 (by decide) (by decide) (fun z15 ez15 => ?_)
    exact hp_iret hx hb hK hN hW hlocks hJ hr ⟨hg_P.rf, hG, by omega⟩ dX3_add_10
theorem iX3_forget_X3 : ∀ w ∈ wsX30, w ∈ wsX3_forget := fun _ h => List.mem_cons_of_mem _ (List.mem_append_right _ h)
set_option maxRecDepth 100000 in
set_option maxHeartbeats 4000000 in
theorem c_X3_forget (l : Launch) (dC : Nat → ClassId) (dI : Nat → Nat → Nat) (dA : Nat → ClassId) (κ : Nat → Nat) (B : Nat) (g : Nat → Nat → Int) (h0 : Nat) (k0 : κ h0 = 10) (i : Int32) (hG : hg_k g) : Met l yX3_forget wsX3_forget ({ frames := 1, cells := 0, slots := 0, locals := 21 } : Room) (hp_Pre dC dI dA κ B g [Value.ref h0, Value.int i]) (hp_Qv dC dI dA κ B (fun u => hg_P hx_c g u ∧ hg_k u)) 0 0 (hp_A B) := by
  refine Met.ofW (cc := cX3_forget) (maxL := 4) (ret := none) (by decide) rfl ?_
  intro p e s m args below meth c s₁ Bd hml hv
  obtain ⟨rfl, hK, hN, hW, hF⟩ := hv
  have hx := Bd.exec
  have hb := Bd.bytes
  have hr := Bd.returns
  have hts := atoms_spec (ws := wsX3_forget) Bd.pre
  have hown : s.vm.findClass RX3 = some m.cls := findClass_of_methodNamed Bd.named
  have hlocks := Bd.notSynchronized
  have hJ : hp_J dC dI dA κ B g s.heap s.heap [] := ⟨hF, va_S.rf⟩
  have hl := lv_entry ([Value.ref h0, Value.int i]) (n := 4) (Nat.le_of_ble_eq_true rfl)
  rw [lg_entry_eq]
  generalize (lg_sl ([Value.ref h0, Value.int i]) ++ List.replicate (4 - (lg_sl ([Value.ref h0, Value.int i])).length) Slot.unset).toArray = ls at hl ⊢
  have hl : lv_has ls 4 [(0, .ref h0), (1, .int i)] := hl
  obtain ⟨hG1, hG2, hG3, hG4, hG5, hG6, hG7, hG8⟩ := id hG
  refine lv_aload_n hx hb dX3_forget_0 rfl (lv_at hl 0 rfl) ?_
  refine lv_iload_n hx hb dX3_forget_1 rfl (lv_at hl 1 rfl) ?_
  refine hp_calli (va_runV (As := [.int i]) (rest := []) ⟨hx, hb, hml, hown, hts⟩ (c_X3_has l dC dI dA κ B g h0 k0 i) (cwV 1 hts gX3_forget_X3_has rfl rfl rfl (by decide +kernel) ⟨Nat.le_of_ble_eq_true rfl, Nat.le_of_ble_eq_true rfl⟩) (hp_preV (q := (RX3, TX3, 2)) [.int i] hK hN hW hJ k0 rfl rfl) rfl rfl hl.1 rfl (lv_room (Nat.le_of_ble_eq_true rfl)) dX3_forget_2 ⟨Nat.zero_le _, Nat.zero_le _⟩) hJ (fun x2 g1 H locs hp hJ => ?_)
  obtain ⟨rfl, f3⟩ := hp
  refine hq_if_ne (tgt := 9) hx hb dX3_forget_5 (by decide) (fun c4 => ?_) (fun c4 => ?_)
  · refine lv_aload_n hx hb dX3_forget_9 rfl (lv_at hl 0 rfl) ?_
    refine hp_getr (C := RX3) (T := TX3) (N := 2) (ci := 3) (kd := 10) hx hb hts iX3_forget_X3 hown hK hJ k0 rfl rfl 0 (by decide) (hts (.fieldLink RX3 11 "NeighborBook$Neighbors" "rows" "[LNeighborBook$Neighbor;") (List.mem_of_getElem? (i := 1) rfl)) (fun _ h9 => h9) rfl dX3_forget_10 (fun b5 kb5 => ?_)
    refine lv_iload_n hx hb dX3_forget_13 rfl (lv_at hl 1 rfl) ?_
    refine hp_aald4 (kd := 16) (n := 12) hx hb hK hJ kb5 rfl (by omega) (by omega) rfl dX3_forget_14 (fun b6 kb6 => ?_)
    refine lv_astore_n (lv' := [(2, .ref b6), (0, .ref h0), (1, .int i)]) hx hb dX3_forget_15 rfl hl (by decide) rfl (fun ls hl => ?_)
    refine lv_aload_n hx hb dX3_forget_16 rfl (lv_at hl 1 rfl) ?_
    refine lv_dup hx hb dX3_forget_17 rfl ?_
    refine hp_geti (C := RX3) (T := TX3) (N := 2) (ci := 3) (kd := 10) hx hb hts iX3_forget_X3 hown hK hJ k0 rfl rfl 1 (by decide) (hts (.fieldLink RX3 18 "NeighborBook$Neighbors" "size" "I") (List.mem_of_getElem? (i := 2) rfl)) (fun _ h9 => h9) rfl rfl dX3_forget_18 (fun x7 ex7 => ?_)
    have ex7 : x7.toInt = g 10 1 := ex7
    refine hq_iconst hx hb dX3_forget_21 (by decide) (by decide) (fun z8 ez8 => ?_)
    refine hq_isub hx hb dX3_forget_22 (by omega) (by omega) (fun x9 ex9 => ?_)
    refine hp_putx (C := RX3) (T := TX3) (N := 2) (ci := 3) (kd := 10) hx hb hts iX3_forget_X3 hown hK hJ k0 rfl rfl 1 (by decide) (hts (.fieldLink RX3 18 "NeighborBook$Neighbors" "size" "I") (List.mem_of_getElem? (i := 2) rfl)) (fun _ h9 => h9) tyX3 tyX3_ok nmX3 (x := x9) rfl rfl (by decide) hW rfl rfl rfl dX3_forget_23 (fun g10 H locs eg10 ng10 hJ => ?_)
    have eg10 : g10 10 1 = x9.toInt := eg10
    have P11 : hg_P hx_c g g10 := hg_P.put hg_P.rf ng10 rfl
    have tt12 : g10 1 1 = g 1 1 := ng10 1 1 (by decide)
    have tt13 : g10 4 1 = g 4 1 := ng10 4 1 (by decide)
    refine lv_iload_n hx hb dX3_forget_26 rfl (lv_at hl 2 rfl) ?_
    refine lv_istore_n (lv' := [(3, .int i), (2, .ref b6), (0, .ref h0), (1, .int i)]) hx hb dX3_forget_27 rfl hl (by decide) rfl (fun ls hl => ?_)
    have lp15 : ∀ (nlp15 : Nat) (v14 : Int32) (H : Heap) (locs : List Loc) (ls : Array Slot), (0 ≤ v14.toInt) → (v14.toInt ≤ 12) → (13 - v14.toInt < (nlp15 : Int)) → hp_J dC dI dA κ B g10 s.heap H locs → lv_has ls 4 [(0, .ref h0), (1, .int i), (2, .ref b6), (3, .int v14)] → W p l e (headSpec wsX3_forget ({ frames := 1, cells := 0, slots := 0, locals := 21 } : Room)).room s m ([Value.ref h0, Value.int i] : List Value).toArray below meth c H locs 0 0 (MQ below (hp_Qv dC dI dA κ B (fun u => hg_P hx_c g u ∧ hg_k u)) ([Value.ref h0, Value.int i] : List Value).toArray s 0 0 (hp_A B)) (F0 m 28 ls []) := by
      intro nlp15
      induction nlp15 with
      | zero => intro v14 H locs ls iv17 iv18 hm16 hJ hl; exact absurd hm16 (by omega)
      | succ nlp15 ihlp15 =>
        intro v14 H locs ls iv17 iv18 hm16 hJ hl
        refine lv_iload_n hx hb dX3_forget_28 rfl (lv_at hl 3 rfl) ?_
        refine lv_aload_n hx hb dX3_forget_29 rfl (lv_at hl 0 rfl) ?_
        refine hp_geti (C := RX3) (T := TX3) (N := 2) (ci := 3) (kd := 10) hx hb hts iX3_forget_X3 hown hK hJ k0 rfl rfl 1 (by decide) (hts (.fieldLink RX3 18 "NeighborBook$Neighbors" "size" "I") (List.mem_of_getElem? (i := 2) rfl)) (fun _ h9 => h9) rfl rfl dX3_forget_30 (fun x19 ex19 => ?_)
        have ex19 : x19.toInt = g10 10 1 := ex19
        refine hq_icmp_ge (tgt := 56) hx hb dX3_forget_33 (by decide) (fun c20 => ?_) (fun c20 => ?_)
        · refine lv_aload_n hx hb dX3_forget_56 rfl (lv_at hl 0 rfl) ?_
          refine hp_getr (C := RX3) (T := TX3) (N := 2) (ci := 3) (kd := 10) hx hb hts iX3_forget_X3 hown hK hJ k0 rfl rfl 0 (by decide) (hts (.fieldLink RX3 11 "NeighborBook$Neighbors" "rows" "[LNeighborBook$Neighbor;") (List.mem_of_getElem? (i := 1) rfl)) (fun _ h9 => h9) rfl dX3_forget_57 (fun b21 kb21 => ?_)
          refine lv_aload_n hx hb dX3_forget_60 rfl (lv_at hl 0 rfl) ?_
          refine hp_geti (C := RX3) (T := TX3) (N := 2) (ci := 3) (kd := 10) hx hb hts iX3_forget_X3 hown hK hJ k0 rfl rfl 1 (by decide) (hts (.fieldLink RX3 18 "NeighborBook$Neighbors" "size" "I") (List.mem_of_getElem? (i := 2) rfl)) (fun _ h9 => h9) rfl rfl dX3_forget_61 (fun x22 ex22 => ?_)
          have ex22 : x22.toInt = g10 10 1 := ex22
          refine lv_aload_n hx hb dX3_forget_64 rfl (lv_at hl 2 rfl) ?_
          refine hp_aast4 (kd := 16) (n := 12) (q := (RX2, TX2, 4)) hx hb hK hJ kb21 rfl (by omega) (by omega) (by decide) hW rfl kb6 rfl rfl rfl dX3_forget_65 (fun H locs hJ => ?_)
          exact hp_vret hx hb hK hN hW hlocks hJ hr ⟨P11, (hg_k.ofc hG P11 (by constructor <;> omega) (by constructor <;> omega) )⟩ dX3_forget_66
        · refine lv_aload_n hx hb dX3_forget_36 rfl (lv_at hl 0 rfl) ?_
          refine hp_getr (C := RX3) (T := TX3) (N := 2) (ci := 3) (kd := 10) hx hb hts iX3_forget_X3 hown hK hJ k0 rfl rfl 0 (by decide) (hts (.fieldLink RX3 11 "NeighborBook$Neighbors" "rows" "[LNeighborBook$Neighbor;") (List.mem_of_getElem? (i := 1) rfl)) (fun _ h9 => h9) rfl dX3_forget_37 (fun b23 kb23 => ?_)
          refine lv_iload_n hx hb dX3_forget_40 rfl (lv_at hl 3 rfl) ?_
          refine lv_aload_n hx hb dX3_forget_41 rfl (lv_at hl 0 rfl) ?_
          refine hp_getr (C := RX3) (T := TX3) (N := 2) (ci := 3) (kd := 10) hx hb hts iX3_forget_X3 hown hK hJ k0 rfl rfl 0 (by decide) (hts (.fieldLink RX3 11 "NeighborBook$Neighbors" "rows" "[LNeighborBook$Neighbor;") (List.mem_of_getElem? (i := 1) rfl)) (fun _ h9 => h9) rfl dX3_forget_42 (fun b24 kb24 => ?_)
          refine lv_iload_n hx hb dX3_forget_45 rfl (lv_at hl 3 rfl) ?_
          refine hq_iconst hx hb dX3_forget_46 (by decide) (by decide) (fun z25 ez25 => ?_)
          refine hq_iadd hx hb dX3_forget_47 (by omega) (by omega) (fun x26 ex26 => ?_)
          refine hp_aald4 (kd := 16) (n := 12) hx hb hK hJ kb24 rfl (by omega) (by omega) rfl dX3_forget_48 (fun b27 kb27 => ?_)
          refine hp_aast4 (kd := 16) (n := 12) (q := (RX2, TX2, 4)) hx hb hK hJ kb23 rfl (by omega) (by omega) (by decide) hW rfl kb27 rfl rfl rfl dX3_forget_49 (fun H locs hJ => ?_)
          refine hq_iinc (k := 3) (lv' := fun (z9 : Int32) => [(3, .int z9), (0, .ref h0), (1, .int i), (2, .ref b6)]) hx hb dX3_forget_50 hl rfl (by decide) (by decide) (by omega) (by omega) (by decide) (fun _ => rfl) (fun x28 ls ex28 hl => ?_)
          have hl : lv_has ls 4 [(3, .int x28), (0, .ref h0), (1, .int i), (2, .ref b6)] := hl
          refine lv_goto (tgt := 28) hx hb dX3_forget_53 (by decide) ?_
          exact ihlp15 x28 _ _ ls (by omega) (by omega) (by omega) hJ (lv_sub hl [1, 2, 3, 0] rfl)
    exact lp15 ((13 - i.toInt).toNat + 1) i _ _ ls (by omega) (by omega) (by omega) hJ (lv_sub hl [2, 3, 1, 0] rfl)
  · exact hp_vret hx hb hK hN hW hlocks hJ hr ⟨hg_P.rf, hG⟩ dX3_forget_8
theorem iX3_forgetAllAt_X3 : ∀ w ∈ wsX30, w ∈ wsX3_forgetAllAt := fun _ h => List.mem_cons_of_mem _ (List.mem_append_left _ (List.mem_append_right _ h))
theorem iX3_forgetAllAt_X2 : ∀ w ∈ wsX20, w ∈ wsX3_forgetAllAt := fun _ h => List.mem_cons_of_mem _ (List.mem_append_right _ h)
set_option maxRecDepth 100000 in
set_option maxHeartbeats 4000000 in
theorem c_X3_forgetAllAt (l : Launch) (dC : Nat → ClassId) (dI : Nat → Nat → Nat) (dA : Nat → ClassId) (κ : Nat → Nat) (B : Nat) (g : Nat → Nat → Int) (h0 : Nat) (k0 : κ h0 = 10) (p1 : Int32) (hG : hg_k g) : Met l yX3_forgetAllAt wsX3_forgetAllAt ({ frames := 2, cells := 0, slots := 0, locals := 44 } : Room) (hp_Pre dC dI dA κ B g [Value.ref h0, Value.int p1]) (hp_Qv dC dI dA κ B (fun u => hg_P hx_c g u ∧ hg_k u)) 0 0 (hp_A B) := by
  refine Met.ofW (cc := cX3_forgetAllAt) (maxL := 3) (ret := none) (by decide) rfl ?_
  intro p e s m args below meth c s₁ Bd hml hv
  obtain ⟨rfl, hK, hN, hW, hF⟩ := hv
  have hx := Bd.exec
  have hb := Bd.bytes
  have hr := Bd.returns
  have hts := atoms_spec (ws := wsX3_forgetAllAt) Bd.pre
  have hown : s.vm.findClass RX3 = some m.cls := findClass_of_methodNamed Bd.named
  have hlocks := Bd.notSynchronized
  have hJ : hp_J dC dI dA κ B g s.heap s.heap [] := ⟨hF, va_S.rf⟩
  have hl := lv_entry ([Value.ref h0, Value.int p1]) (n := 3) (Nat.le_of_ble_eq_true rfl)
  rw [lg_entry_eq]
  generalize (lg_sl ([Value.ref h0, Value.int p1]) ++ List.replicate (3 - (lg_sl ([Value.ref h0, Value.int p1])).length) Slot.unset).toArray = ls at hl ⊢
  have hl : lv_has ls 3 [(0, .ref h0), (1, .int p1)] := hl
  obtain ⟨hG1, hG2, hG3, hG4, hG5, hG6, hG7, hG8⟩ := id hG
  refine lv_aload_n hx hb dX3_forgetAllAt_0 rfl (lv_at hl 0 rfl) ?_
  refine hp_geti (C := RX3) (T := TX3) (N := 2) (ci := 3) (kd := 10) hx hb hts iX3_forgetAllAt_X3 hown hK hJ k0 rfl rfl 1 (by decide) (hts (.fieldLink RX3 18 "NeighborBook$Neighbors" "size" "I") (List.mem_of_getElem? (i := 1) rfl)) (fun _ h9 => h9) rfl rfl dX3_forgetAllAt_1 (fun x1 ex1 => ?_)
  have ex1 : x1.toInt = g 10 1 := ex1
  refine hq_iconst hx hb dX3_forgetAllAt_4 (by decide) (by decide) (fun z2 ez2 => ?_)
  refine hq_isub hx hb dX3_forgetAllAt_5 (by omega) (by omega) (fun x3 ex3 => ?_)
  refine lv_istore_n (lv' := [(2, .int x3), (0, .ref h0), (1, .int p1)]) hx hb dX3_forgetAllAt_6 rfl hl (by decide) rfl (fun ls hl => ?_)
  have lp6 : ∀ (nlp6 : Nat) (v4 : Int32) (g5 : Nat → Nat → Int) (H : Heap) (locs : List Loc) (ls : Array Slot), (hg_P hx_c g g5) → (hg_k g5) → (-1 ≤ v4.toInt) → (v4.toInt < 12) → (v4.toInt + 2 < (nlp6 : Int)) → hp_J dC dI dA κ B g5 s.heap H locs → lv_has ls 3 [(0, .ref h0), (1, .int p1), (2, .int v4)] → W p l e (headSpec wsX3_forgetAllAt ({ frames := 2, cells := 0, slots := 0, locals := 44 } : Room)).room s m ([Value.ref h0, Value.int p1] : List Value).toArray below meth c H locs 0 0 (MQ below (hp_Qv dC dI dA κ B (fun u => hg_P hx_c g u ∧ hg_k u)) ([Value.ref h0, Value.int p1] : List Value).toArray s 0 0 (hp_A B)) (F0 m 7 ls []) := by
    intro nlp6
    induction nlp6 with
    | zero => intro v4 g5 H locs ls iv8 iv9 iv10 iv11 hm7 hJ hl; exact absurd hm7 (by omega)
    | succ nlp6 ihlp6 =>
      intro v4 g5 H locs ls iv8 iv9 iv10 iv11 hm7 hJ hl
      obtain ⟨hG1, hG2, hG3, hG4, hG5, hG6, hG7, hG8⟩ := id iv9
      refine lv_iload_n hx hb dX3_forgetAllAt_7 rfl (lv_at hl 2 rfl) ?_
      refine hq_if_lt (tgt := 35) hx hb dX3_forgetAllAt_8 (by decide) (fun c12 => ?_) (fun c12 => ?_)
      · exact hp_vret hx hb hK hN hW hlocks hJ hr ⟨iv8, iv9⟩ dX3_forgetAllAt_35
      · refine lv_aload_n hx hb dX3_forgetAllAt_11 rfl (lv_at hl 0 rfl) ?_
        refine hp_getr (C := RX3) (T := TX3) (N := 2) (ci := 3) (kd := 10) hx hb hts iX3_forgetAllAt_X3 hown hK hJ k0 rfl rfl 0 (by decide) (hts (.fieldLink RX3 11 "NeighborBook$Neighbors" "rows" "[LNeighborBook$Neighbor;") (List.mem_of_getElem? (i := 2) rfl)) (fun _ h9 => h9) rfl dX3_forgetAllAt_12 (fun b13 kb13 => ?_)
        refine lv_iload_n hx hb dX3_forgetAllAt_15 rfl (lv_at hl 2 rfl) ?_
        refine hp_aald4 (kd := 16) (n := 12) hx hb hK hJ kb13 rfl (by omega) (by omega) rfl dX3_forgetAllAt_16 (fun b14 kb14 => ?_)
        refine hp_calli (va_runV (As := []) (rest := []) ⟨hx, hb, hml, hown, hts⟩ (c_X2_portOf l dC dI dA κ B g5 b14 kb14) (cwV 0 hts gX3_forgetAllAt_X2_portOf rfl rfl rfl (by decide +kernel) ⟨Nat.le_of_ble_eq_true rfl, Nat.le_of_ble_eq_true rfl⟩) (hp_preV (q := (RX2, TX2, 4)) [] hK hN hW hJ kb14 rfl rfl) rfl rfl hl.1 rfl (lv_room (Nat.le_of_ble_eq_true rfl)) dX3_forgetAllAt_17 ⟨Nat.zero_le _, Nat.zero_le _⟩) hJ (fun x16 g15 H locs hp hJ => ?_)
        subst hp
        refine lv_iload_n hx hb dX3_forgetAllAt_20 rfl (lv_at hl 1 rfl) ?_
        refine hq_icmp_ne (tgt := 29) hx hb dX3_forgetAllAt_21 (by decide) (fun c17 => ?_) (fun c17 => ?_)
        · refine hq_iinc (k := 2) (lv' := fun (z9 : Int32) => [(2, .int z9), (0, .ref h0), (1, .int p1)]) hx hb dX3_forgetAllAt_29 hl rfl (by decide) (by decide) (by omega) (by omega) (by decide) (fun _ => rfl) (fun x18 ls ex18 hl => ?_)
          have hl : lv_has ls 3 [(2, .int x18), (0, .ref h0), (1, .int p1)] := hl
          refine lv_goto (tgt := 7) hx hb dX3_forgetAllAt_32 (by decide) ?_
          exact ihlp6 x18 g5 _ _ ls iv8 iv9 (by omega) (by omega) (by omega) hJ (lv_sub hl [1, 2, 0] rfl)
        · refine lv_aload_n hx hb dX3_forgetAllAt_24 rfl (lv_at hl 0 rfl) ?_
          refine lv_iload_n hx hb dX3_forgetAllAt_25 rfl (lv_at hl 2 rfl) ?_
          refine hp_callv (va_runV (As := [.int v4]) (rest := []) ⟨hx, hb, hml, hown, hts⟩ (c_X3_forget l dC dI dA κ B g5 h0 k0 v4 iv9) (cwV 1 hts gX3_forgetAllAt_X3_forget rfl rfl rfl (by decide +kernel) ⟨Nat.le_of_ble_eq_true rfl, Nat.le_of_ble_eq_true rfl⟩) (hp_preV (q := (RX3, TX3, 2)) [.int v4] hK hN hW hJ k0 rfl rfl) rfl rfl hl.1 rfl (lv_room (Nat.le_of_ble_eq_true rfl)) dX3_forgetAllAt_26 ⟨Nat.zero_le _, Nat.zero_le _⟩) hJ (fun g19 H locs hp hJ => ?_)
          obtain ⟨P21a, K22⟩ := hp
          obtain ⟨K221, K222, K223, K224, K225, K226, K227, K228⟩ := id K22
          have P21 : hg_P hx_c g g19 := hg_P.tr iv8 P21a
          have qt23 : g19 1 1 = g5 1 1 := P21a 1 1 rfl
          have qt24 : g19 11 1 = g5 11 1 := P21a 11 1 rfl
          have qt25 : g19 11 13 = g5 11 13 := P21a 11 13 rfl
          have qt26 : g19 11 22 = g5 11 22 := P21a 11 22 rfl
          refine hq_iinc (k := 2) (lv' := fun (z9 : Int32) => [(2, .int z9), (0, .ref h0), (1, .int p1)]) hx hb dX3_forgetAllAt_29 hl rfl (by decide) (by decide) (by omega) (by omega) (by decide) (fun _ => rfl) (fun x27 ls ex27 hl => ?_)
          have hl : lv_has ls 3 [(2, .int x27), (0, .ref h0), (1, .int p1)] := hl
          refine lv_goto (tgt := 7) hx hb dX3_forgetAllAt_32 (by decide) ?_
          exact ihlp6 x27 g19 _ _ ls P21 K22 (by omega) (by omega) (by omega) hJ (lv_sub hl [1, 2, 0] rfl)
  exact lp6 ((x3.toInt + 2).toNat + 1) x3 g _ _ ls hg_P.rf hG (by omega) (by omega) (by omega) hJ (lv_sub hl [1, 2, 0] rfl)
theorem iX3_passTick_X3 : ∀ w ∈ wsX30, w ∈ wsX3_passTick := fun _ h => List.mem_cons_of_mem _ (List.mem_append_left _ (List.mem_append_right _ h))
theorem iX3_passTick_X2 : ∀ w ∈ wsX20, w ∈ wsX3_passTick := fun _ h => List.mem_cons_of_mem _ (List.mem_append_right _ h)
set_option maxRecDepth 100000 in
set_option maxHeartbeats 4000000 in
theorem c_X3_passTick (l : Launch) (dC : Nat → ClassId) (dI : Nat → Nat → Nat) (dA : Nat → ClassId) (κ : Nat → Nat) (B : Nat) (g : Nat → Nat → Int) (h0 : Nat) (k0 : κ h0 = 10) (hG : hg_k g) : Met l yX3_passTick wsX3_passTick ({ frames := 2, cells := 0, slots := 0, locals := 44 } : Room) (hp_Pre dC dI dA κ B g [Value.ref h0]) (hp_Qv dC dI dA κ B (fun u => hg_P hx_c g u ∧ hg_k u)) 0 0 (hp_A B) := by
  refine Met.ofW (cc := cX3_passTick) (maxL := 2) (ret := none) (by decide) rfl ?_
  intro p e s m args below meth c s₁ Bd hml hv
  obtain ⟨rfl, hK, hN, hW, hF⟩ := hv
  have hx := Bd.exec
  have hb := Bd.bytes
  have hr := Bd.returns
  have hts := atoms_spec (ws := wsX3_passTick) Bd.pre
  have hown : s.vm.findClass RX3 = some m.cls := findClass_of_methodNamed Bd.named
  have hlocks := Bd.notSynchronized
  have hJ : hp_J dC dI dA κ B g s.heap s.heap [] := ⟨hF, va_S.rf⟩
  have hl := lv_entry ([Value.ref h0]) (n := 2) (Nat.le_of_ble_eq_true rfl)
  rw [lg_entry_eq]
  generalize (lg_sl ([Value.ref h0]) ++ List.replicate (2 - (lg_sl ([Value.ref h0])).length) Slot.unset).toArray = ls at hl ⊢
  have hl : lv_has ls 2 [(0, .ref h0)] := hl
  obtain ⟨hG1, hG2, hG3, hG4, hG5, hG6, hG7, hG8⟩ := id hG
  refine lv_aload_n hx hb dX3_passTick_0 rfl (lv_at hl 0 rfl) ?_
  refine hp_geti (C := RX3) (T := TX3) (N := 2) (ci := 3) (kd := 10) hx hb hts iX3_passTick_X3 hown hK hJ k0 rfl rfl 1 (by decide) (hts (.fieldLink RX3 18 "NeighborBook$Neighbors" "size" "I") (List.mem_of_getElem? (i := 1) rfl)) (fun _ h9 => h9) rfl rfl dX3_passTick_1 (fun x1 ex1 => ?_)
  have ex1 : x1.toInt = g 10 1 := ex1
  refine hq_iconst hx hb dX3_passTick_4 (by decide) (by decide) (fun z2 ez2 => ?_)
  refine hq_isub hx hb dX3_passTick_5 (by omega) (by omega) (fun x3 ex3 => ?_)
  refine lv_istore_n (lv' := [(1, .int x3), (0, .ref h0)]) hx hb dX3_passTick_6 rfl hl (by decide) rfl (fun ls hl => ?_)
  have lp6 : ∀ (nlp6 : Nat) (v4 : Int32) (g5 : Nat → Nat → Int) (H : Heap) (locs : List Loc) (ls : Array Slot), (hg_P hx_c g g5) → (hg_k g5) → (-1 ≤ v4.toInt) → (v4.toInt < 12) → (v4.toInt + 2 < (nlp6 : Int)) → hp_J dC dI dA κ B g5 s.heap H locs → lv_has ls 2 [(0, .ref h0), (1, .int v4)] → W p l e (headSpec wsX3_passTick ({ frames := 2, cells := 0, slots := 0, locals := 44 } : Room)).room s m ([Value.ref h0] : List Value).toArray below meth c H locs 0 0 (MQ below (hp_Qv dC dI dA κ B (fun u => hg_P hx_c g u ∧ hg_k u)) ([Value.ref h0] : List Value).toArray s 0 0 (hp_A B)) (F0 m 7 ls []) := by
    intro nlp6
    induction nlp6 with
    | zero => intro v4 g5 H locs ls iv8 iv9 iv10 iv11 hm7 hJ hl; exact absurd hm7 (by omega)
    | succ nlp6 ihlp6 =>
      intro v4 g5 H locs ls iv8 iv9 iv10 iv11 hm7 hJ hl
      obtain ⟨hG1, hG2, hG3, hG4, hG5, hG6, hG7, hG8⟩ := id iv9
      refine lv_iload_n hx hb dX3_passTick_7 rfl (lv_at hl 1 rfl) ?_
      refine hq_if_lt (tgt := 34) hx hb dX3_passTick_8 (by decide) (fun c12 => ?_) (fun c12 => ?_)
      · exact hp_vret hx hb hK hN hW hlocks hJ hr ⟨iv8, iv9⟩ dX3_passTick_34
      · refine lv_aload_n hx hb dX3_passTick_11 rfl (lv_at hl 0 rfl) ?_
        refine hp_getr (C := RX3) (T := TX3) (N := 2) (ci := 3) (kd := 10) hx hb hts iX3_passTick_X3 hown hK hJ k0 rfl rfl 0 (by decide) (hts (.fieldLink RX3 11 "NeighborBook$Neighbors" "rows" "[LNeighborBook$Neighbor;") (List.mem_of_getElem? (i := 2) rfl)) (fun _ h9 => h9) rfl dX3_passTick_12 (fun b13 kb13 => ?_)
        refine lv_iload_n hx hb dX3_passTick_15 rfl (lv_at hl 1 rfl) ?_
        refine hp_aald4 (kd := 16) (n := 12) hx hb hK hJ kb13 rfl (by omega) (by omega) rfl dX3_passTick_16 (fun b14 kb14 => ?_)
        refine hp_calli (va_runV (As := []) (rest := []) ⟨hx, hb, hml, hown, hts⟩ (c_X2_passTick l dC dI dA κ B g5 b14 kb14) (cwV 0 hts gX3_passTick_X2_passTick rfl rfl rfl (by decide +kernel) ⟨Nat.le_of_ble_eq_true rfl, Nat.le_of_ble_eq_true rfl⟩) (hp_preV (q := (RX2, TX2, 4)) [] hK hN hW hJ kb14 rfl rfl) rfl rfl hl.1 rfl (lv_room (Nat.le_of_ble_eq_true rfl)) dX3_passTick_17 ⟨Nat.zero_le _, Nat.zero_le _⟩) hJ (fun x16 g15 H locs hp hJ => ?_)
        obtain ⟨rfl, f17⟩ := hp
        refine hq_if_eq (tgt := 28) hx hb dX3_passTick_20 (by decide) (fun c18 => ?_) (fun c18 => ?_)
        · refine hq_iinc (k := 1) (lv' := fun (z9 : Int32) => [(1, .int z9), (0, .ref h0)]) hx hb dX3_passTick_28 hl rfl (by decide) (by decide) (by omega) (by omega) (by decide) (fun _ => rfl) (fun x19 ls ex19 hl => ?_)
          have hl : lv_has ls 2 [(1, .int x19), (0, .ref h0)] := hl
          refine lv_goto (tgt := 7) hx hb dX3_passTick_31 (by decide) ?_
          exact ihlp6 x19 g5 _ _ ls iv8 iv9 (by omega) (by omega) (by omega) hJ (lv_sub hl [1, 0] rfl)
        · refine lv_aload_n hx hb dX3_passTick_23 rfl (lv_at hl 0 rfl) ?_
          refine lv_iload_n hx hb dX3_passTick_24 rfl (lv_at hl 1 rfl) ?_
          refine hp_callv (va_runV (As := [.int v4]) (rest := []) ⟨hx, hb, hml, hown, hts⟩ (c_X3_forget l dC dI dA κ B g5 h0 k0 v4 iv9) (cwV 1 hts gX3_passTick_X3_forget rfl rfl rfl (by decide +kernel) ⟨Nat.le_of_ble_eq_true rfl, Nat.le_of_ble_eq_true rfl⟩) (hp_preV (q := (RX3, TX3, 2)) [.int v4] hK hN hW hJ k0 rfl rfl) rfl rfl hl.1 rfl (lv_room (Nat.le_of_ble_eq_true rfl)) dX3_passTick_25 ⟨Nat.zero_le _, Nat.zero_le _⟩) hJ (fun g20 H locs hp hJ => ?_)
          obtain ⟨P22a, K23⟩ := hp
          obtain ⟨K231, K232, K233, K234, K235, K236, K237, K238⟩ := id K23
          have P22 : hg_P hx_c g g20 := hg_P.tr iv8 P22a
          have qt24 : g20 1 1 = g5 1 1 := P22a 1 1 rfl
          have qt25 : g20 11 1 = g5 11 1 := P22a 11 1 rfl
          have qt26 : g20 11 13 = g5 11 13 := P22a 11 13 rfl
          have qt27 : g20 11 22 = g5 11 22 := P22a 11 22 rfl
          refine hq_iinc (k := 1) (lv' := fun (z9 : Int32) => [(1, .int z9), (0, .ref h0)]) hx hb dX3_passTick_28 hl rfl (by decide) (by decide) (by omega) (by omega) (by decide) (fun _ => rfl) (fun x28 ls ex28 hl => ?_)
          have hl : lv_has ls 2 [(1, .int x28), (0, .ref h0)] := hl
          refine lv_goto (tgt := 7) hx hb dX3_passTick_31 (by decide) ?_
          exact ihlp6 x28 g20 _ _ ls P22 K23 (by omega) (by omega) (by omega) hJ (lv_sub hl [1, 0] rfl)
  exact lp6 ((x3.toInt + 2).toNat + 1) x3 g _ _ ls hg_P.rf hG (by omega) (by omega) (by omega) hJ (lv_sub hl [1, 0] rfl)
end
section
theorem iX6_type_X6 : ∀ w ∈ wsX60, w ∈ wsX6_type := fun _ h => List.mem_cons_of_mem _ (List.mem_append_right _ h)
set_option maxRecDepth 100000 in
set_option maxHeartbeats 4000000 in
theorem c_X6_type (l : Launch) (dC : Nat → ClassId) (dI : Nat → Nat → Nat) (dA : Nat → ClassId) (κ : Nat → Nat) (B : Nat) (g : Nat → Nat → Int) (h0 : Nat) (k0 : κ h0 = 1) (w : Int64) (n : Int32) (hG : hg_k g) : Met l yX6_type wsX6_type ({ frames := 0, cells := 0, slots := 0, locals := 0 } : Room) (hp_Pre dC dI dA κ B g [Value.ref h0, Value.long w, Value.int n]) (hp_Qi dC dI dA κ B (fun r u => hg_P hx_d g u ∧ hg_k u ∧ (((1 ≤ n.toInt ∧ n.toInt ≤ 8 ∧ g 1 1 + n.toInt ≤ 700) ∧ u 1 1 = g 1 1 + n.toInt ∧ r.toInt = g 1 1 + n.toInt) ∨ (¬ (1 ≤ n.toInt ∧ n.toInt ≤ 8 ∧ g 1 1 + n.toInt ≤ 700) ∧ u 1 1 = g 1 1 ∧ r.toInt = -1)))) 0 0 (hp_A B) := by
  refine Met.ofW (cc := cX6_type) (maxL := 5) (ret := (some .int)) (by decide) rfl ?_
  intro p e s m args below meth c s₁ Bd hml hv
  obtain ⟨rfl, hK, hN, hW, hF⟩ := hv
  have hx := Bd.exec
  have hb := Bd.bytes
  have hr := Bd.returns
  have hts := atoms_spec (ws := wsX6_type) Bd.pre
  have hown : s.vm.findClass RX6 = some m.cls := findClass_of_methodNamed Bd.named
  have hlocks := Bd.notSynchronized
  have hJ : hp_J dC dI dA κ B g s.heap s.heap [] := ⟨hF, va_S.rf⟩
  have hl := lv_entry ([Value.ref h0, Value.long w, Value.int n]) (n := 5) (Nat.le_of_ble_eq_true rfl)
  rw [lg_entry_eq]
  generalize (lg_sl ([Value.ref h0, Value.long w, Value.int n]) ++ List.replicate (5 - (lg_sl ([Value.ref h0, Value.long w, Value.int n])).length) Slot.unset).toArray = ls at hl ⊢
  have hl : lv_has ls 5 [(0, .ref h0), (1, .long w), (3, .int n)] := hl
  obtain ⟨hG1, hG2, hG3, hG4, hG5, hG6, hG7, hG8⟩ := id hG
  refine lv_iload_n hx hb dX6_type_0 rfl (lv_at hl 2 rfl) ?_
  refine hq_iconst hx hb dX6_type_1 (by decide) (by decide) (fun z1 ez1 => ?_)
  refine hq_icmp_lt (tgt := 23) hx hb dX6_type_2 (by decide) (fun c2 => ?_) (fun c2 => ?_)
  · refine hq_iconst hx hb dX6_type_23 (by decide) (by decide) (fun z3 ez3 => ?_)
    exact hp_iret hx hb hK hN hW hlocks hJ hr ⟨hg_P.rf, hG, by omega⟩ dX6_type_24
  · refine lv_iload_n hx hb dX6_type_5 rfl (lv_at hl 2 rfl) ?_
    refine hq_bipush hx hb dX6_type_6 (by decide) (fun z4 ez4 => ?_)
    refine hq_icmp_gt (tgt := 23) hx hb dX6_type_8 (by decide) (fun c5 => ?_) (fun c5 => ?_)
    · refine hq_iconst hx hb dX6_type_23 (by decide) (by decide) (fun z6 ez6 => ?_)
      exact hp_iret hx hb hK hN hW hlocks hJ hr ⟨hg_P.rf, hG, by omega⟩ dX6_type_24
    · refine lv_aload_n hx hb dX6_type_11 rfl (lv_at hl 0 rfl) ?_
      refine hp_geti (C := RX6) (T := TX6) (N := 12) (ci := 6) (kd := 1) hx hb hts iX6_type_X6 hown hK hJ k0 rfl rfl 1 (by decide) (hts (.fieldLink RX6 65 "NeighborBook" "typedCount" "I") (List.mem_of_getElem? (i := 1) rfl)) (fun _ h9 => h9) rfl rfl dX6_type_12 (fun x7 ex7 => ?_)
      have ex7 : x7.toInt = g 1 1 := ex7
      refine lv_iload_n hx hb dX6_type_15 rfl (lv_at hl 2 rfl) ?_
      refine hq_iadd hx hb dX6_type_16 (by omega) (by omega) (fun x8 ex8 => ?_)
      refine hq_sipush hx hb dX6_type_17 (by decide) (fun z9 ez9 => ?_)
      refine hq_icmp_le (tgt := 25) hx hb dX6_type_20 (by decide) (fun c10 => ?_) (fun c10 => ?_)
      · refine lv_iload_n hx hb dX6_type_25 rfl (lv_at hl 2 rfl) ?_
        refine hq_iconst hx hb dX6_type_26 (by decide) (by decide) (fun z11 ez11 => ?_)
        refine hq_isub hx hb dX6_type_27 (by omega) (by omega) (fun x12 ex12 => ?_)
        refine lv_istore (lv' := [(4, .int x12), (0, .ref h0), (1, .long w), (3, .int n)]) hx hb dX6_type_28 hl (by decide) rfl (fun ls hl => ?_)
        have lp15 : ∀ (nlp15 : Nat) (v13 : Int32) (g14 : Nat → Nat → Int) (H : Heap) (locs : List Loc) (ls : Array Slot), (hg_P hx_d g g14) → (hg_k g14) → (-1 ≤ v13.toInt) → (v13.toInt ≤ 7) → (g14 1 1 + v13.toInt = g 1 1 + n.toInt - 1) → (v13.toInt + 2 < (nlp15 : Int)) → hp_J dC dI dA κ B g14 s.heap H locs → lv_has ls 5 [(0, .ref h0), (1, .long w), (3, .int n), (4, .int v13)] → W p l e (headSpec wsX6_type ({ frames := 0, cells := 0, slots := 0, locals := 0 } : Room)).room s m ([Value.ref h0, Value.long w, Value.int n] : List Value).toArray below meth c H locs 0 0 (MQ below (hp_Qi dC dI dA κ B (fun r u => hg_P hx_d g u ∧ hg_k u ∧ (((1 ≤ n.toInt ∧ n.toInt ≤ 8 ∧ g 1 1 + n.toInt ≤ 700) ∧ u 1 1 = g 1 1 + n.toInt ∧ r.toInt = g 1 1 + n.toInt) ∨ (¬ (1 ≤ n.toInt ∧ n.toInt ≤ 8 ∧ g 1 1 + n.toInt ≤ 700) ∧ u 1 1 = g 1 1 ∧ r.toInt = -1)))) ([Value.ref h0, Value.long w, Value.int n] : List Value).toArray s 0 0 (hp_A B)) (F0 m 30 ls []) := by
          intro nlp15
          induction nlp15 with
          | zero => intro v13 g14 H locs ls iv17 iv18 iv19 iv20 iv21 hm16 hJ hl; exact absurd hm16 (by omega)
          | succ nlp15 ihlp15 =>
            intro v13 g14 H locs ls iv17 iv18 iv19 iv20 iv21 hm16 hJ hl
            obtain ⟨hG1, hG2, hG3, hG4, hG5, hG6, hG7, hG8⟩ := id iv18
            refine lv_iload hx hb dX6_type_30 (lv_at hl 3 rfl) ?_
            refine hq_if_lt (tgt := 69) hx hb dX6_type_32 (by decide) (fun c22 => ?_) (fun c22 => ?_)
            · refine lv_aload_n hx hb dX6_type_69 rfl (lv_at hl 0 rfl) ?_
              refine hp_geti (C := RX6) (T := TX6) (N := 12) (ci := 6) (kd := 1) hx hb hts iX6_type_X6 hown hK hJ k0 rfl rfl 1 (by decide) (hts (.fieldLink RX6 65 "NeighborBook" "typedCount" "I") (List.mem_of_getElem? (i := 1) rfl)) (fun _ h9 => h9) rfl rfl dX6_type_70 (fun x23 ex23 => ?_)
              have ex23 : x23.toInt = g14 1 1 := ex23
              exact hp_iret hx hb hK hN hW hlocks hJ hr ⟨iv17, iv18, by omega⟩ dX6_type_73
            · refine lv_aload_n hx hb dX6_type_35 rfl (lv_at hl 0 rfl) ?_
              refine hp_getr (C := RX6) (T := TX6) (N := 12) (ci := 6) (kd := 1) hx hb hts iX6_type_X6 hown hK hJ k0 rfl rfl 0 (by decide) (hts (.fieldLink RX6 9 "NeighborBook" "typed" "[B") (List.mem_of_getElem? (i := 2) rfl)) (fun _ h9 => h9) rfl dX6_type_36 (fun b24 kb24 => ?_)
              refine lv_aload_n hx hb dX6_type_39 rfl (lv_at hl 0 rfl) ?_
              refine hp_geti (C := RX6) (T := TX6) (N := 12) (ci := 6) (kd := 1) hx hb hts iX6_type_X6 hown hK hJ k0 rfl rfl 1 (by decide) (hts (.fieldLink RX6 65 "NeighborBook" "typedCount" "I") (List.mem_of_getElem? (i := 1) rfl)) (fun _ h9 => h9) rfl rfl dX6_type_40 (fun x25 ex25 => ?_)
              have ex25 : x25.toInt = g14 1 1 := ex25
              refine lv_lload_n hx hb dX6_type_43 rfl (lv_at hl 1 rfl) ?_
              refine hq_bipush hx hb dX6_type_44 (by decide) (fun z26 ez26 => ?_)
              refine lv_iload hx hb dX6_type_46 (lv_at hl 3 rfl) ?_
              refine hq_imul (w := 8 * v13.toInt) hx hb dX6_type_48 (by rw [ez26]) (by omega) (by omega) (fun x27 ex27 => ?_)
              refine lv_lushr hx hb dX6_type_49 rfl ?_
              refine lv_topl (fun w28 _ => ?_)
              refine lv_l2i hx hb dX6_type_50 rfl ?_
              refine lv_topi (fun x29 _ => ?_)
              refine hq_i2b hx hb dX6_type_51 (fun x30 => ?_)
              refine hp_bast (kd := 12) (n := 700) hx hb hK hJ kb24 rfl (by omega) (by omega) (by decide) hW rfl dX6_type_52 (fun H locs hJ => ?_)
              refine lv_aload_n hx hb dX6_type_53 rfl (lv_at hl 0 rfl) ?_
              refine lv_dup hx hb dX6_type_54 rfl ?_
              refine hp_geti (C := RX6) (T := TX6) (N := 12) (ci := 6) (kd := 1) hx hb hts iX6_type_X6 hown hK hJ k0 rfl rfl 1 (by decide) (hts (.fieldLink RX6 65 "NeighborBook" "typedCount" "I") (List.mem_of_getElem? (i := 1) rfl)) (fun _ h9 => h9) rfl rfl dX6_type_55 (fun x31 ex31 => ?_)
              have ex31 : x31.toInt = g14 1 1 := ex31
              refine hq_iconst hx hb dX6_type_58 (by decide) (by decide) (fun z32 ez32 => ?_)
              refine hq_iadd hx hb dX6_type_59 (by omega) (by omega) (fun x33 ex33 => ?_)
              refine hp_putx (C := RX6) (T := TX6) (N := 12) (ci := 6) (kd := 1) hx hb hts iX6_type_X6 hown hK hJ k0 rfl rfl 1 (by decide) (hts (.fieldLink RX6 65 "NeighborBook" "typedCount" "I") (List.mem_of_getElem? (i := 1) rfl)) (fun _ h9 => h9) tyX6 tyX6_ok nmX6 (x := x33) rfl rfl (by decide) hW rfl rfl rfl dX6_type_60 (fun g34 H locs eg34 ng34 hJ => ?_)
              have eg34 : g34 1 1 = x33.toInt := eg34
              have P35 : hg_P hx_d g g34 := hg_P.put iv17 ng34 rfl
              have tt36 : g34 10 1 = g14 10 1 := ng34 10 1 (by decide)
              have tt37 : g34 4 1 = g14 4 1 := ng34 4 1 (by decide)
              refine hq_iinc (k := 3) (lv' := fun (z9 : Int32) => [(4, .int z9), (0, .ref h0), (1, .long w), (3, .int n)]) hx hb dX6_type_63 hl rfl (by decide) (by decide) (by omega) (by omega) (by decide) (fun _ => rfl) (fun x38 ls ex38 hl => ?_)
              have hl : lv_has ls 5 [(4, .int x38), (0, .ref h0), (1, .long w), (3, .int n)] := hl
              refine lv_goto (tgt := 30) hx hb dX6_type_66 (by decide) ?_
              exact ihlp15 x38 g34 _ _ ls P35 (hg_k.ofd hG P35 (by constructor <;> omega) (by constructor <;> omega) (by constructor <;> omega) ) (by omega) (by omega) (by omega) (by omega) hJ (lv_sub hl [1, 2, 3, 0] rfl)
        exact lp15 ((x12.toInt + 2).toNat + 1) x12 g _ _ ls hg_P.rf hG (by omega) (by omega) (by omega) (by omega) hJ (lv_sub hl [1, 2, 3, 0] rfl)
      · refine hq_iconst hx hb dX6_type_23 (by decide) (by decide) (fun z39 ez39 => ?_)
        exact hp_iret hx hb hK hN hW hlocks hJ hr ⟨hg_P.rf, hG, by omega⟩ dX6_type_24
theorem iX6_hurryAll_X6 : ∀ w ∈ wsX60, w ∈ wsX6_hurryAll := fun _ h => List.mem_cons_of_mem _ (List.mem_append_left _ (List.mem_append_right _ h))
theorem iX6_hurryAll_X4 : ∀ w ∈ wsX40, w ∈ wsX6_hurryAll := fun _ h => List.mem_cons_of_mem _ (List.mem_append_right _ h)
set_option maxRecDepth 100000 in
set_option maxHeartbeats 4000000 in
theorem c_X6_hurryAll (l : Launch) (dC : Nat → ClassId) (dI : Nat → Nat → Nat) (dA : Nat → ClassId) (κ : Nat → Nat) (B : Nat) (g : Nat → Nat → Int) (h0 : Nat) (k0 : κ h0 = 1) (hG : hg_k g) : Met l yX6_hurryAll wsX6_hurryAll ({ frames := 1, cells := 0, slots := 0, locals := 20 } : Room) (hp_Pre dC dI dA κ B g [Value.ref h0]) (hp_Qv dC dI dA κ B (fun u => hg_P hx_c g u ∧ hg_k u)) 0 0 (hp_A B) := by
  refine Met.ofW (cc := cX6_hurryAll) (maxL := 2) (ret := none) (by decide) rfl ?_
  intro p e s m args below meth c s₁ Bd hml hv
  obtain ⟨rfl, hK, hN, hW, hF⟩ := hv
  have hx := Bd.exec
  have hb := Bd.bytes
  have hr := Bd.returns
  have hts := atoms_spec (ws := wsX6_hurryAll) Bd.pre
  have hown : s.vm.findClass RX6 = some m.cls := findClass_of_methodNamed Bd.named
  have hlocks := Bd.notSynchronized
  have hJ : hp_J dC dI dA κ B g s.heap s.heap [] := ⟨hF, va_S.rf⟩
  have hl := lv_entry ([Value.ref h0]) (n := 2) (Nat.le_of_ble_eq_true rfl)
  rw [lg_entry_eq]
  generalize (lg_sl ([Value.ref h0]) ++ List.replicate (2 - (lg_sl ([Value.ref h0])).length) Slot.unset).toArray = ls at hl ⊢
  have hl : lv_has ls 2 [(0, .ref h0)] := hl
  obtain ⟨hG1, hG2, hG3, hG4, hG5, hG6, hG7, hG8⟩ := id hG
  refine hq_iconst hx hb dX6_hurryAll_0 (by decide) (by decide) (fun z1 ez1 => ?_)
  refine lv_istore_n (lv' := [(1, .int z1), (0, .ref h0)]) hx hb dX6_hurryAll_1 rfl hl (by decide) rfl (fun ls hl => ?_)
  have lp4 : ∀ (nlp4 : Nat) (v2 : Int32) (g3 : Nat → Nat → Int) (H : Heap) (locs : List Loc) (ls : Array Slot), (hg_P hx_c g g3) → (hg_k g3) → (0 ≤ v2.toInt) → (v2.toInt ≤ 4) → (5 - v2.toInt < (nlp4 : Int)) → hp_J dC dI dA κ B g3 s.heap H locs → lv_has ls 2 [(0, .ref h0), (1, .int v2)] → W p l e (headSpec wsX6_hurryAll ({ frames := 1, cells := 0, slots := 0, locals := 20 } : Room)).room s m ([Value.ref h0] : List Value).toArray below meth c H locs 0 0 (MQ below (hp_Qv dC dI dA κ B (fun u => hg_P hx_c g u ∧ hg_k u)) ([Value.ref h0] : List Value).toArray s 0 0 (hp_A B)) (F0 m 2 ls []) := by
    intro nlp4
    induction nlp4 with
    | zero => intro v2 g3 H locs ls iv6 iv7 iv8 iv9 hm5 hJ hl; exact absurd hm5 (by omega)
    | succ nlp4 ihlp4 =>
      intro v2 g3 H locs ls iv6 iv7 iv8 iv9 hm5 hJ hl
      obtain ⟨hG1, hG2, hG3, hG4, hG5, hG6, hG7, hG8⟩ := id iv7
      refine lv_iload_n hx hb dX6_hurryAll_2 rfl (lv_at hl 1 rfl) ?_
      refine hq_iconst hx hb dX6_hurryAll_3 (by decide) (by decide) (fun z10 ez10 => ?_)
      refine hq_icmp_ge (tgt := 22) hx hb dX6_hurryAll_4 (by decide) (fun c11 => ?_) (fun c11 => ?_)
      · exact hp_vret hx hb hK hN hW hlocks hJ hr ⟨iv6, iv7⟩ dX6_hurryAll_22
      · refine lv_aload_n hx hb dX6_hurryAll_7 rfl (lv_at hl 0 rfl) ?_
        refine hp_getr (C := RX6) (T := TX6) (N := 12) (ci := 6) (kd := 1) hx hb hts iX6_hurryAll_X6 hown hK hJ k0 rfl rfl 3 (by decide) (hts (.fieldLink RX6 22 "NeighborBook" "ports" "[LNeighborBook$Port;") (List.mem_of_getElem? (i := 1) rfl)) (fun _ h9 => h9) rfl dX6_hurryAll_8 (fun b12 kb12 => ?_)
        refine lv_iload_n hx hb dX6_hurryAll_11 rfl (lv_at hl 1 rfl) ?_
        refine hp_aald3 (kd := 15) (n := 4) hx hb hK hJ kb12 rfl (by omega) (by omega) (hk_s15 (by omega)) dX6_hurryAll_12 (fun b13 kb13 => ?_)
        refine hp_callv (va_runV (As := []) (rest := []) ⟨hx, hb, hml, hown, hts⟩ (c_X4_hurry l dC dI dA κ B g3 (v2.toInt.toNat) (by omega : v2.toInt.toNat < 4) b13 kb13 iv7) (cwV 0 hts gX6_hurryAll_X4_hurry rfl rfl rfl (by decide +kernel) ⟨Nat.le_of_ble_eq_true rfl, Nat.le_of_ble_eq_true rfl⟩) (hp_preV (q := (RX4, TX4, 6)) [] hK hN hW hJ kb13 (hk_t5 (by omega : v2.toInt.toNat < 4)) rfl) rfl rfl hl.1 rfl (lv_room (Nat.le_of_ble_eq_true rfl)) dX6_hurryAll_13 ⟨Nat.zero_le _, Nat.zero_le _⟩) hJ (fun g14 H locs hp hJ => ?_)
        obtain ⟨P16a, K17⟩ := hp
        obtain ⟨K171, K172, K173, K174, K175, K176, K177, K178⟩ := id K17
        have P16 : hg_P hx_c g g14 := hg_P.tr iv6 P16a
        have qt18 : g14 1 1 = g3 1 1 := P16a 1 1 rfl
        have qt19 : g14 11 1 = g3 11 1 := P16a 11 1 rfl
        have qt20 : g14 11 13 = g3 11 13 := P16a 11 13 rfl
        have qt21 : g14 11 22 = g3 11 22 := P16a 11 22 rfl
        refine hq_iinc (k := 1) (lv' := fun (z9 : Int32) => [(1, .int z9), (0, .ref h0)]) hx hb dX6_hurryAll_16 hl rfl (by decide) (by decide) (by omega) (by omega) (by decide) (fun _ => rfl) (fun x22 ls ex22 hl => ?_)
        have hl : lv_has ls 2 [(1, .int x22), (0, .ref h0)] := hl
        refine lv_goto (tgt := 2) hx hb dX6_hurryAll_19 (by decide) ?_
        exact ihlp4 x22 g14 _ _ ls P16 K17 (by omega) (by omega) (by omega) hJ (lv_sub hl [1, 0] rfl)
  exact lp4 ((5 - z1.toInt).toNat + 1) z1 g _ _ ls hg_P.rf hG (by omega) (by omega) (by omega) hJ (lv_sub hl [1, 0] rfl)
theorem iX6_tellNothing_X6 : ∀ w ∈ wsX60, w ∈ wsX6_tellNothing := fun _ h => List.mem_cons_of_mem _ (List.mem_append_left _ (List.mem_append_left _ (List.mem_append_right _ h)))
theorem iX6_tellNothing_X0 : ∀ w ∈ wsX00, w ∈ wsX6_tellNothing := fun _ h => List.mem_cons_of_mem _ (List.mem_append_left _ (List.mem_append_right _ h))
theorem iX6_tellNothing_X4 : ∀ w ∈ wsX40, w ∈ wsX6_tellNothing := fun _ h => List.mem_cons_of_mem _ (List.mem_append_right _ h)
set_option maxRecDepth 100000 in
set_option maxHeartbeats 4000000 in
theorem c_X6_tellNothing (l : Launch) (dC : Nat → ClassId) (dI : Nat → Nat → Nat) (dA : Nat → ClassId) (κ : Nat → Nat) (B : Nat) (g : Nat → Nat → Int) (h0 : Nat) (k0 : κ h0 = 1) (type : Int32) (hG : hg_k g) : Met l yX6_tellNothing wsX6_tellNothing ({ frames := 3, cells := 0, slots := 0, locals := 63 } : Room) (hp_Pre dC dI dA κ B g [Value.ref h0, Value.int type]) (hp_Qv dC dI dA κ B (fun u => hg_P hx_c g u ∧ hg_k u)) 0 0 (hp_A B) := by
  refine Met.ofW (cc := cX6_tellNothing) (maxL := 2) (ret := none) (by decide) rfl ?_
  intro p e s m args below meth c s₁ Bd hml hv
  obtain ⟨rfl, hK, hN, hW, hF⟩ := hv
  have hx := Bd.exec
  have hb := Bd.bytes
  have hr := Bd.returns
  have hts := atoms_spec (ws := wsX6_tellNothing) Bd.pre
  have hown : s.vm.findClass RX6 = some m.cls := findClass_of_methodNamed Bd.named
  have hlocks := Bd.notSynchronized
  have hJ : hp_J dC dI dA κ B g s.heap s.heap [] := ⟨hF, va_S.rf⟩
  have hl := lv_entry ([Value.ref h0, Value.int type]) (n := 2) (Nat.le_of_ble_eq_true rfl)
  rw [lg_entry_eq]
  generalize (lg_sl ([Value.ref h0, Value.int type]) ++ List.replicate (2 - (lg_sl ([Value.ref h0, Value.int type])).length) Slot.unset).toArray = ls at hl ⊢
  have hl : lv_has ls 2 [(0, .ref h0), (1, .int type)] := hl
  obtain ⟨hG1, hG2, hG3, hG4, hG5, hG6, hG7, hG8⟩ := id hG
  refine lv_aload_n hx hb dX6_tellNothing_0 rfl (lv_at hl 0 rfl) ?_
  refine hp_getr (C := RX6) (T := TX6) (N := 12) (ci := 6) (kd := 1) hx hb hts iX6_tellNothing_X6 hown hK hJ k0 rfl rfl 2 (by decide) (hts (.fieldLink RX6 16 "NeighborBook" "told" "LNeighborBook$Contents;") (List.mem_of_getElem? (i := 1) rfl)) (fun _ h9 => h9) rfl dX6_tellNothing_1 (fun b1 kb1 => ?_)
  refine lv_iload_n hx hb dX6_tellNothing_4 rfl (lv_at hl 1 rfl) ?_
  refine hp_calli (va_runV (As := [.int type]) (rest := []) ⟨hx, hb, hml, hown, hts⟩ (c_X0_has l dC dI dA κ B g b1 kb1 type) (cwV 1 hts gX6_tellNothing_X0_has rfl rfl rfl (by decide +kernel) ⟨Nat.le_of_ble_eq_true rfl, Nat.le_of_ble_eq_true rfl⟩) (hp_preV (q := (RX0, TX0, 2)) [.int type] hK hN hW hJ kb1 rfl rfl) rfl rfl hl.1 rfl (lv_room (Nat.le_of_ble_eq_true rfl)) dX6_tellNothing_5 ⟨Nat.zero_le _, Nat.zero_le _⟩) hJ (fun x3 g2 H locs hp hJ => ?_)
  obtain ⟨rfl, f4⟩ := hp
  refine hq_if_eq (tgt := 23) hx hb dX6_tellNothing_8 (by decide) (fun c5 => ?_) (fun c5 => ?_)
  · exact hp_vret hx hb hK hN hW hlocks hJ hr ⟨hg_P.rf, hG⟩ dX6_tellNothing_23
  · refine lv_aload_n hx hb dX6_tellNothing_11 rfl (lv_at hl 0 rfl) ?_
    refine hp_getr (C := RX6) (T := TX6) (N := 12) (ci := 6) (kd := 1) hx hb hts iX6_tellNothing_X6 hown hK hJ k0 rfl rfl 2 (by decide) (hts (.fieldLink RX6 16 "NeighborBook" "told" "LNeighborBook$Contents;") (List.mem_of_getElem? (i := 1) rfl)) (fun _ h9 => h9) rfl dX6_tellNothing_12 (fun b6 kb6 => ?_)
    refine lv_iload_n hx hb dX6_tellNothing_15 rfl (lv_at hl 1 rfl) ?_
    refine hp_callv (va_runV (As := [.int type]) (rest := []) ⟨hx, hb, hml, hown, hts⟩ (c_X0_drop l dC dI dA κ B g b6 kb6 type) (cwV 1 hts gX6_tellNothing_X0_drop rfl rfl rfl (by decide +kernel) ⟨Nat.le_of_ble_eq_true rfl, Nat.le_of_ble_eq_true rfl⟩) (hp_preV (q := (RX0, TX0, 2)) [.int type] hK hN hW hJ kb6 rfl rfl) rfl rfl hl.1 rfl (lv_room (Nat.le_of_ble_eq_true rfl)) dX6_tellNothing_16 ⟨Nat.zero_le _, Nat.zero_le _⟩) hJ (fun g7 H locs hp hJ => ?_)
    subst hp
    refine lv_aload_n hx hb dX6_tellNothing_19 rfl (lv_at hl 0 rfl) ?_
    refine hp_callv (va_runV (As := []) (rest := []) ⟨hx, hb, hml, hown, hts⟩ (c_X6_hurryAll l dC dI dA κ B g h0 k0 hG) (cwV 0 hts gX6_tellNothing_X6_hurryAll rfl rfl rfl (by decide +kernel) ⟨Nat.le_of_ble_eq_true rfl, Nat.le_of_ble_eq_true rfl⟩) (hp_preV (q := (RX6, TX6, 12)) [] hK hN hW hJ k0 rfl rfl) rfl rfl hl.1 rfl (lv_room (Nat.le_of_ble_eq_true rfl)) dX6_tellNothing_20 ⟨Nat.zero_le _, Nat.zero_le _⟩) hJ (fun g8 H locs hp hJ => ?_)
    obtain ⟨P10a, K11⟩ := hp
    obtain ⟨K111, K112, K113, K114, K115, K116, K117, K118⟩ := id K11
    have P10 : hg_P hx_c g g8 := P10a
    have qt12 : g8 1 1 = g 1 1 := P10a 1 1 rfl
    have qt13 : g8 11 1 = g 11 1 := P10a 11 1 rfl
    have qt14 : g8 11 13 = g 11 13 := P10a 11 13 rfl
    have qt15 : g8 11 22 = g 11 22 := P10a 11 22 rfl
    exact hp_vret hx hb hK hN hW hlocks hJ hr ⟨P10, K11⟩ dX6_tellNothing_23
theorem iX6_tellTyped_X6 : ∀ w ∈ wsX60, w ∈ wsX6_tellTyped := fun _ h => List.mem_cons_of_mem _ (List.mem_append_left _ (List.mem_append_left _ (List.mem_append_right _ h)))
theorem iX6_tellTyped_X0 : ∀ w ∈ wsX00, w ∈ wsX6_tellTyped := fun _ h => List.mem_cons_of_mem _ (List.mem_append_left _ (List.mem_append_right _ h))
theorem iX6_tellTyped_X4 : ∀ w ∈ wsX40, w ∈ wsX6_tellTyped := fun _ h => List.mem_cons_of_mem _ (List.mem_append_right _ h)
set_option maxRecDepth 100000 in
set_option maxHeartbeats 4000000 in
theorem c_X6_tellTyped (l : Launch) (dC : Nat → ClassId) (dI : Nat → Nat → Nat) (dA : Nat → ClassId) (κ : Nat → Nat) (B : Nat) (g : Nat → Nat → Int) (h0 : Nat) (k0 : κ h0 = 1) (type : Int32) (hG : hg_k g) (ht0 : 0 ≤ type.toInt) (ht8 : type.toInt ≤ 8) : Met l yX6_tellTyped wsX6_tellTyped ({ frames := 3, cells := 0, slots := 0, locals := 64 } : Room) (hp_Pre dC dI dA κ B g [Value.ref h0, Value.int type]) (hp_Qv dC dI dA κ B (fun u => hg_P hx_c g u ∧ hg_k u)) 0 0 (hp_A B) := by
  refine Met.ofW (cc := cX6_tellTyped) (maxL := 2) (ret := none) (by decide) rfl ?_
  intro p e s m args below meth c s₁ Bd hml hv
  obtain ⟨rfl, hK, hN, hW, hF⟩ := hv
  have hx := Bd.exec
  have hb := Bd.bytes
  have hr := Bd.returns
  have hts := atoms_spec (ws := wsX6_tellTyped) Bd.pre
  have hown : s.vm.findClass RX6 = some m.cls := findClass_of_methodNamed Bd.named
  have hlocks := Bd.notSynchronized
  have hJ : hp_J dC dI dA κ B g s.heap s.heap [] := ⟨hF, va_S.rf⟩
  have hl := lv_entry ([Value.ref h0, Value.int type]) (n := 2) (Nat.le_of_ble_eq_true rfl)
  rw [lg_entry_eq]
  generalize (lg_sl ([Value.ref h0, Value.int type]) ++ List.replicate (2 - (lg_sl ([Value.ref h0, Value.int type])).length) Slot.unset).toArray = ls at hl ⊢
  have hl : lv_has ls 2 [(0, .ref h0), (1, .int type)] := hl
  obtain ⟨hG1, hG2, hG3, hG4, hG5, hG6, hG7, hG8⟩ := id hG
  refine lv_aload_n hx hb dX6_tellTyped_0 rfl (lv_at hl 0 rfl) ?_
  refine hp_getr (C := RX6) (T := TX6) (N := 12) (ci := 6) (kd := 1) hx hb hts iX6_tellTyped_X6 hown hK hJ k0 rfl rfl 2 (by decide) (hts (.fieldLink RX6 16 "NeighborBook" "told" "LNeighborBook$Contents;") (List.mem_of_getElem? (i := 1) rfl)) (fun _ h9 => h9) rfl dX6_tellTyped_1 (fun b1 kb1 => ?_)
  refine lv_iload_n hx hb dX6_tellTyped_4 rfl (lv_at hl 1 rfl) ?_
  refine lv_aload_n hx hb dX6_tellTyped_5 rfl (lv_at hl 0 rfl) ?_
  refine hp_getr (C := RX6) (T := TX6) (N := 12) (ci := 6) (kd := 1) hx hb hts iX6_tellTyped_X6 hown hK hJ k0 rfl rfl 0 (by decide) (hts (.fieldLink RX6 9 "NeighborBook" "typed" "[B") (List.mem_of_getElem? (i := 2) rfl)) (fun _ h9 => h9) rfl dX6_tellTyped_6 (fun b2 kb2 => ?_)
  refine hq_iconst hx hb dX6_tellTyped_9 (by decide) (by decide) (fun z3 ez3 => ?_)
  refine lv_aload_n hx hb dX6_tellTyped_10 rfl (lv_at hl 0 rfl) ?_
  refine hp_geti (C := RX6) (T := TX6) (N := 12) (ci := 6) (kd := 1) hx hb hts iX6_tellTyped_X6 hown hK hJ k0 rfl rfl 1 (by decide) (hts (.fieldLink RX6 65 "NeighborBook" "typedCount" "I") (List.mem_of_getElem? (i := 3) rfl)) (fun _ h9 => h9) rfl rfl dX6_tellTyped_11 (fun x4 ex4 => ?_)
  have ex4 : x4.toInt = g 1 1 := ex4
  refine hp_calli (va_runV (As := [.int type, .ref b2, .int z3, .int x4]) (rest := []) ⟨hx, hb, hml, hown, hts⟩ (c_X0_isSame l dC dI dA κ B g b1 kb1 type b2 kb2 z3 x4 rfl (fun _ => rfl) (by decide) (by omega) (by omega)) (cwV 4 hts gX6_tellTyped_X0_isSame rfl rfl rfl (by decide +kernel) ⟨Nat.le_of_ble_eq_true rfl, Nat.le_of_ble_eq_true rfl⟩) (hp_preV (q := (RX0, TX0, 2)) [.int type, .ref b2, .int z3, .int x4] hK hN hW hJ kb1 rfl rfl) rfl rfl hl.1 rfl (lv_room (Nat.le_of_ble_eq_true rfl)) dX6_tellTyped_14 ⟨Nat.zero_le _, Nat.zero_le _⟩) hJ (fun x6 g5 H locs hp hJ => ?_)
  obtain ⟨rfl, f7⟩ := hp
  refine hq_if_ne (tgt := 41) hx hb dX6_tellTyped_17 (by decide) (fun c8 => ?_) (fun c8 => ?_)
  · exact hp_vret hx hb hK hN hW hlocks hJ hr ⟨hg_P.rf, hG⟩ dX6_tellTyped_41
  · refine lv_aload_n hx hb dX6_tellTyped_20 rfl (lv_at hl 0 rfl) ?_
    refine hp_getr (C := RX6) (T := TX6) (N := 12) (ci := 6) (kd := 1) hx hb hts iX6_tellTyped_X6 hown hK hJ k0 rfl rfl 2 (by decide) (hts (.fieldLink RX6 16 "NeighborBook" "told" "LNeighborBook$Contents;") (List.mem_of_getElem? (i := 1) rfl)) (fun _ h9 => h9) rfl dX6_tellTyped_21 (fun b9 kb9 => ?_)
    refine lv_iload_n hx hb dX6_tellTyped_24 rfl (lv_at hl 1 rfl) ?_
    refine lv_aload_n hx hb dX6_tellTyped_25 rfl (lv_at hl 0 rfl) ?_
    refine hp_getr (C := RX6) (T := TX6) (N := 12) (ci := 6) (kd := 1) hx hb hts iX6_tellTyped_X6 hown hK hJ k0 rfl rfl 0 (by decide) (hts (.fieldLink RX6 9 "NeighborBook" "typed" "[B") (List.mem_of_getElem? (i := 2) rfl)) (fun _ h9 => h9) rfl dX6_tellTyped_26 (fun b10 kb10 => ?_)
    refine hq_iconst hx hb dX6_tellTyped_29 (by decide) (by decide) (fun z11 ez11 => ?_)
    refine lv_aload_n hx hb dX6_tellTyped_30 rfl (lv_at hl 0 rfl) ?_
    refine hp_geti (C := RX6) (T := TX6) (N := 12) (ci := 6) (kd := 1) hx hb hts iX6_tellTyped_X6 hown hK hJ k0 rfl rfl 1 (by decide) (hts (.fieldLink RX6 65 "NeighborBook" "typedCount" "I") (List.mem_of_getElem? (i := 3) rfl)) (fun _ h9 => h9) rfl rfl dX6_tellTyped_31 (fun x12 ex12 => ?_)
    have ex12 : x12.toInt = g 1 1 := ex12
    refine hp_callv (va_runV (As := [.int type, .ref b10, .int z11, .int x12]) (rest := []) ⟨hx, hb, hml, hown, hts⟩ (c_X0_keep l dC dI dA κ B g b9 kb9 type b10 kb10 z11 x12) (cwV 4 hts gX6_tellTyped_X0_keep rfl rfl rfl (by decide +kernel) ⟨Nat.le_of_ble_eq_true rfl, Nat.le_of_ble_eq_true rfl⟩) (hp_preV (q := (RX0, TX0, 2)) [.int type, .ref b10, .int z11, .int x12] hK hN hW hJ kb9 rfl rfl) rfl rfl hl.1 rfl (lv_room (Nat.le_of_ble_eq_true rfl)) dX6_tellTyped_34 ⟨Nat.zero_le _, Nat.zero_le _⟩) hJ (fun g13 H locs hp hJ => ?_)
    subst hp
    refine lv_aload_n hx hb dX6_tellTyped_37 rfl (lv_at hl 0 rfl) ?_
    refine hp_callv (va_runV (As := []) (rest := []) ⟨hx, hb, hml, hown, hts⟩ (c_X6_hurryAll l dC dI dA κ B g h0 k0 hG) (cwV 0 hts gX6_tellTyped_X6_hurryAll rfl rfl rfl (by decide +kernel) ⟨Nat.le_of_ble_eq_true rfl, Nat.le_of_ble_eq_true rfl⟩) (hp_preV (q := (RX6, TX6, 12)) [] hK hN hW hJ k0 rfl rfl) rfl rfl hl.1 rfl (lv_room (Nat.le_of_ble_eq_true rfl)) dX6_tellTyped_38 ⟨Nat.zero_le _, Nat.zero_le _⟩) hJ (fun g14 H locs hp hJ => ?_)
    obtain ⟨P16a, K17⟩ := hp
    obtain ⟨K171, K172, K173, K174, K175, K176, K177, K178⟩ := id K17
    have P16 : hg_P hx_c g g14 := P16a
    have qt18 : g14 1 1 = g 1 1 := P16a 1 1 rfl
    have qt19 : g14 11 1 = g 11 1 := P16a 11 1 rfl
    have qt20 : g14 11 13 = g 11 13 := P16a 11 13 rfl
    have qt21 : g14 11 22 = g 11 22 := P16a 11 22 rfl
    exact hp_vret hx hb hK hN hW hlocks hJ hr ⟨P16, K17⟩ dX6_tellTyped_41
theorem iX6_tell_X6 : ∀ w ∈ wsX60, w ∈ wsX6_tell := fun _ h => List.mem_cons_of_mem _ (List.mem_append_left _ (List.mem_append_left _ (List.mem_append_right _ h)))
theorem iX6_tell_X0 : ∀ w ∈ wsX00, w ∈ wsX6_tell := fun _ h => List.mem_cons_of_mem _ (List.mem_append_left _ (List.mem_append_right _ h))
theorem iX6_tell_X4 : ∀ w ∈ wsX40, w ∈ wsX6_tell := fun _ h => List.mem_cons_of_mem _ (List.mem_append_right _ h)
set_option maxRecDepth 100000 in
set_option maxHeartbeats 4000000 in
theorem c_X6_tell (l : Launch) (dC : Nat → ClassId) (dI : Nat → Nat → Nat) (dA : Nat → ClassId) (κ : Nat → Nat) (B : Nat) (g : Nat → Nat → Int) (h0 : Nat) (k0 : κ h0 = 1) (what : Int32) (hG : hg_k g) : Met l yX6_tell wsX6_tell ({ frames := 4, cells := 0, slots := 0, locals := 85 } : Room) (hp_Pre dC dI dA κ B g [Value.ref h0, Value.int what]) (hp_Qi dC dI dA κ B (fun r u => hg_P hx_d g u ∧ hg_k u ∧ (((((what.toInt = 1 ∨ what.toInt = 2) ∧ 2 ≤ g 1 1 ∧ g 1 1 ≤ 59) ∨ (4 ≤ what.toInt ∧ what.toInt ≤ 8 ∧ g 1 1 ≤ 60)) ∧ u 1 1 = 0 ∧ r.toInt = 1) ∨ (¬ (((what.toInt = 1 ∨ what.toInt = 2) ∧ 2 ≤ g 1 1 ∧ g 1 1 ≤ 59) ∨ (4 ≤ what.toInt ∧ what.toInt ≤ 8 ∧ g 1 1 ≤ 60)) ∧ u 1 1 = g 1 1 ∧ r.toInt = 0)))) 0 0 (hp_A B) := by
  refine Met.ofW (cc := cX6_tell) (maxL := 2) (ret := (some .int)) (by decide) rfl ?_
  intro p e s m args below meth c s₁ Bd hml hv
  obtain ⟨rfl, hK, hN, hW, hF⟩ := hv
  have hx := Bd.exec
  have hb := Bd.bytes
  have hr := Bd.returns
  have hts := atoms_spec (ws := wsX6_tell) Bd.pre
  have hown : s.vm.findClass RX6 = some m.cls := findClass_of_methodNamed Bd.named
  have hlocks := Bd.notSynchronized
  have hJ : hp_J dC dI dA κ B g s.heap s.heap [] := ⟨hF, va_S.rf⟩
  have hl := lv_entry ([Value.ref h0, Value.int what]) (n := 2) (Nat.le_of_ble_eq_true rfl)
  rw [lg_entry_eq]
  generalize (lg_sl ([Value.ref h0, Value.int what]) ++ List.replicate (2 - (lg_sl ([Value.ref h0, Value.int what])).length) Slot.unset).toArray = ls at hl ⊢
  have hl : lv_has ls 2 [(0, .ref h0), (1, .int what)] := hl
  obtain ⟨hG1, hG2, hG3, hG4, hG5, hG6, hG7, hG8⟩ := id hG
  refine lv_iload_n hx hb dX6_tell_0 rfl (lv_at hl 1 rfl) ?_
  refine lv_aload_n hx hb dX6_tell_1 rfl (lv_at hl 0 rfl) ?_
  refine hp_geti (C := RX6) (T := TX6) (N := 12) (ci := 6) (kd := 1) hx hb hts iX6_tell_X6 hown hK hJ k0 rfl rfl 1 (by decide) (hts (.fieldLink RX6 65 "NeighborBook" "typedCount" "I") (List.mem_of_getElem? (i := 1) rfl)) (fun _ h9 => h9) rfl rfl dX6_tell_2 (fun x1 ex1 => ?_)
  have ex1 : x1.toInt = g 1 1 := ex1
  refine hp_calli (va_runS (As := [.int what, .int x1]) (rest := []) ⟨hx, hb, hml, hown, hts⟩ (c_X6_isTellable l dC dI dA κ B g what x1) (va_cwS 2 hts gX6_tell_X6_isTellable rfl rfl rfl (by decide +kernel) ⟨Nat.le_of_ble_eq_true rfl, Nat.le_of_ble_eq_true rfl⟩) (hp_preS [.int what, .int x1] hK hN hW hJ) rfl rfl hl.1 rfl (lv_room (Nat.le_of_ble_eq_true rfl)) dX6_tell_5 ⟨Nat.zero_le _, Nat.zero_le _⟩) hJ (fun x3 g2 H locs hp hJ => ?_)
  obtain ⟨rfl, f4⟩ := hp
  refine hq_if_ne (tgt := 13) hx hb dX6_tell_8 (by decide) (fun c5 => ?_) (fun c5 => ?_)
  · refine lv_aload_n hx hb dX6_tell_13 rfl (lv_at hl 0 rfl) ?_
    refine hp_geti (C := RX6) (T := TX6) (N := 12) (ci := 6) (kd := 1) hx hb hts iX6_tell_X6 hown hK hJ k0 rfl rfl 1 (by decide) (hts (.fieldLink RX6 65 "NeighborBook" "typedCount" "I") (List.mem_of_getElem? (i := 1) rfl)) (fun _ h9 => h9) rfl rfl dX6_tell_14 (fun x6 ex6 => ?_)
    have ex6 : x6.toInt = g 1 1 := ex6
    refine hq_if_ne (tgt := 28) hx hb dX6_tell_17 (by decide) (fun c7 => ?_) (fun c7 => ?_)
    · refine lv_aload_n hx hb dX6_tell_28 rfl (lv_at hl 0 rfl) ?_
      refine lv_iload_n hx hb dX6_tell_29 rfl (lv_at hl 1 rfl) ?_
      refine hp_callv (va_runV (As := [.int what]) (rest := []) ⟨hx, hb, hml, hown, hts⟩ (c_X6_tellTyped l dC dI dA κ B g h0 k0 what hG (by omega) (by omega)) (cwV 1 hts gX6_tell_X6_tellTyped rfl rfl rfl (by decide +kernel) ⟨Nat.le_of_ble_eq_true rfl, Nat.le_of_ble_eq_true rfl⟩) (hp_preV (q := (RX6, TX6, 12)) [.int what] hK hN hW hJ k0 rfl rfl) rfl rfl hl.1 rfl (lv_room (Nat.le_of_ble_eq_true rfl)) dX6_tell_30 ⟨Nat.zero_le _, Nat.zero_le _⟩) hJ (fun g8 H locs hp hJ => ?_)
      obtain ⟨P10a, K11⟩ := hp
      obtain ⟨K111, K112, K113, K114, K115, K116, K117, K118⟩ := id K11
      have P10 : hg_P hx_d g g8 := (P10a.le hx_cd)
      have qt12 : g8 1 1 = g 1 1 := P10a 1 1 rfl
      have qt13 : g8 11 1 = g 11 1 := P10a 11 1 rfl
      have qt14 : g8 11 13 = g 11 13 := P10a 11 13 rfl
      have qt15 : g8 11 22 = g 11 22 := P10a 11 22 rfl
      refine lv_aload_n hx hb dX6_tell_33 rfl (lv_at hl 0 rfl) ?_
      refine hq_iconst hx hb dX6_tell_34 (by decide) (by decide) (fun z16 ez16 => ?_)
      refine hp_putx (C := RX6) (T := TX6) (N := 12) (ci := 6) (kd := 1) hx hb hts iX6_tell_X6 hown hK hJ k0 rfl rfl 1 (by decide) (hts (.fieldLink RX6 65 "NeighborBook" "typedCount" "I") (List.mem_of_getElem? (i := 1) rfl)) (fun _ h9 => h9) tyX6 tyX6_ok nmX6 (x := z16) rfl rfl (by decide) hW rfl rfl rfl dX6_tell_35 (fun g17 H locs eg17 ng17 hJ => ?_)
      have eg17 : g17 1 1 = z16.toInt := eg17
      have P18 : hg_P hx_d g g17 := hg_P.put P10 ng17 rfl
      have tt19 : g17 10 1 = g8 10 1 := ng17 10 1 (by decide)
      have tt20 : g17 4 1 = g8 4 1 := ng17 4 1 (by decide)
      refine hq_iconst hx hb dX6_tell_38 (by decide) (by decide) (fun z21 ez21 => ?_)
      exact hp_iret hx hb hK hN hW hlocks hJ hr ⟨P18, (hg_k.ofd hG P18 (by constructor <;> omega) (by constructor <;> omega) (by constructor <;> omega) ), by omega⟩ dX6_tell_39
    · refine lv_aload_n hx hb dX6_tell_20 rfl (lv_at hl 0 rfl) ?_
      refine lv_iload_n hx hb dX6_tell_21 rfl (lv_at hl 1 rfl) ?_
      refine hp_callv (va_runV (As := [.int what]) (rest := []) ⟨hx, hb, hml, hown, hts⟩ (c_X6_tellNothing l dC dI dA κ B g h0 k0 what hG) (cwV 1 hts gX6_tell_X6_tellNothing rfl rfl rfl (by decide +kernel) ⟨Nat.le_of_ble_eq_true rfl, Nat.le_of_ble_eq_true rfl⟩) (hp_preV (q := (RX6, TX6, 12)) [.int what] hK hN hW hJ k0 rfl rfl) rfl rfl hl.1 rfl (lv_room (Nat.le_of_ble_eq_true rfl)) dX6_tell_22 ⟨Nat.zero_le _, Nat.zero_le _⟩) hJ (fun g22 H locs hp hJ => ?_)
      obtain ⟨P24a, K25⟩ := hp
      obtain ⟨K251, K252, K253, K254, K255, K256, K257, K258⟩ := id K25
      have P24 : hg_P hx_d g g22 := (P24a.le hx_cd)
      have qt26 : g22 1 1 = g 1 1 := P24a 1 1 rfl
      have qt27 : g22 11 1 = g 11 1 := P24a 11 1 rfl
      have qt28 : g22 11 13 = g 11 13 := P24a 11 13 rfl
      have qt29 : g22 11 22 = g 11 22 := P24a 11 22 rfl
      refine lv_goto (tgt := 33) hx hb dX6_tell_25 (by decide) ?_
      refine lv_aload_n hx hb dX6_tell_33 rfl (lv_at hl 0 rfl) ?_
      refine hq_iconst hx hb dX6_tell_34 (by decide) (by decide) (fun z30 ez30 => ?_)
      refine hp_putx (C := RX6) (T := TX6) (N := 12) (ci := 6) (kd := 1) hx hb hts iX6_tell_X6 hown hK hJ k0 rfl rfl 1 (by decide) (hts (.fieldLink RX6 65 "NeighborBook" "typedCount" "I") (List.mem_of_getElem? (i := 1) rfl)) (fun _ h9 => h9) tyX6 tyX6_ok nmX6 (x := z30) rfl rfl (by decide) hW rfl rfl rfl dX6_tell_35 (fun g31 H locs eg31 ng31 hJ => ?_)
      have eg31 : g31 1 1 = z30.toInt := eg31
      have P32 : hg_P hx_d g g31 := hg_P.put P24 ng31 rfl
      have tt33 : g31 10 1 = g22 10 1 := ng31 10 1 (by decide)
      have tt34 : g31 4 1 = g22 4 1 := ng31 4 1 (by decide)
      refine hq_iconst hx hb dX6_tell_38 (by decide) (by decide) (fun z35 ez35 => ?_)
      exact hp_iret hx hb hK hN hW hlocks hJ hr ⟨P32, (hg_k.ofd hG P32 (by constructor <;> omega) (by constructor <;> omega) (by constructor <;> omega) ), by omega⟩ dX6_tell_39
  · refine hq_iconst hx hb dX6_tell_11 (by decide) (by decide) (fun z36 ez36 => ?_)
    exact hp_iret hx hb hK hN hW hlocks hJ hr ⟨hg_P.rf, hG, by omega⟩ dX6_tell_12
theorem iX6_set_X6 : ∀ w ∈ wsX60, w ∈ wsX6_set := fun _ h => List.mem_cons_of_mem _ (List.mem_append_right _ h)
set_option maxRecDepth 100000 in
set_option maxHeartbeats 4000000 in
theorem c_X6_set (l : Launch) (dC : Nat → ClassId) (dI : Nat → Nat → Nat) (dA : Nat → ClassId) (κ : Nat → Nat) (B : Nat) (g : Nat → Nat → Int) (h0 : Nat) (k0 : κ h0 = 1) (what : Int32) (v : Int32) : Met l yX6_set wsX6_set ({ frames := 0, cells := 0, slots := 0, locals := 0 } : Room) (hp_Pre dC dI dA κ B g [Value.ref h0, Value.int what, Value.int v]) (hp_Qi dC dI dA κ B (fun r u => g = u ∧ ((((what.toInt = 0 ∧ 1 ≤ v.toInt ∧ v.toInt ≤ 3600) ∨ (what.toInt = 1 ∧ 2 ≤ v.toInt ∧ v.toInt ≤ 10) ∨ (what.toInt = 2 ∧ 1 ≤ v.toInt ∧ v.toInt ≤ 8)) ∧ r.toInt = 1) ∨ (¬ ((what.toInt = 0 ∧ 1 ≤ v.toInt ∧ v.toInt ≤ 3600) ∨ (what.toInt = 1 ∧ 2 ≤ v.toInt ∧ v.toInt ≤ 10) ∨ (what.toInt = 2 ∧ 1 ≤ v.toInt ∧ v.toInt ≤ 8)) ∧ r.toInt = 0)))) 0 0 (hp_A B) := by
  refine Met.ofW (cc := cX6_set) (maxL := 3) (ret := (some .int)) (by decide) rfl ?_
  intro p e s m args below meth c s₁ Bd hml hv
  obtain ⟨rfl, hK, hN, hW, hF⟩ := hv
  have hx := Bd.exec
  have hb := Bd.bytes
  have hr := Bd.returns
  have hts := atoms_spec (ws := wsX6_set) Bd.pre
  have hown : s.vm.findClass RX6 = some m.cls := findClass_of_methodNamed Bd.named
  have hlocks := Bd.notSynchronized
  have hJ : hp_J dC dI dA κ B g s.heap s.heap [] := ⟨hF, va_S.rf⟩
  have hl := lv_entry ([Value.ref h0, Value.int what, Value.int v]) (n := 3) (Nat.le_of_ble_eq_true rfl)
  rw [lg_entry_eq]
  generalize (lg_sl ([Value.ref h0, Value.int what, Value.int v]) ++ List.replicate (3 - (lg_sl ([Value.ref h0, Value.int what, Value.int v])).length) Slot.unset).toArray = ls at hl ⊢
  have hl : lv_has ls 3 [(0, .ref h0), (1, .int what), (2, .int v)] := hl
  refine lv_iload_n hx hb dX6_set_0 rfl (lv_at hl 1 rfl) ?_
  refine hq_if_ne (tgt := 23) hx hb dX6_set_1 (by decide) (fun c1 => ?_) (fun c1 => ?_)
  · refine lv_iload_n hx hb dX6_set_23 rfl (lv_at hl 1 rfl) ?_
    refine hq_iconst hx hb dX6_set_24 (by decide) (by decide) (fun z2 ez2 => ?_)
    refine hq_icmp_ne (tgt := 46) hx hb dX6_set_25 (by decide) (fun c3 => ?_) (fun c3 => ?_)
    · refine lv_iload_n hx hb dX6_set_46 rfl (lv_at hl 1 rfl) ?_
      refine hq_iconst hx hb dX6_set_47 (by decide) (by decide) (fun z4 ez4 => ?_)
      refine hq_icmp_ne (tgt := 69) hx hb dX6_set_48 (by decide) (fun c5 => ?_) (fun c5 => ?_)
      · refine hq_iconst hx hb dX6_set_69 (by decide) (by decide) (fun z6 ez6 => ?_)
        exact hp_iret hx hb hK hN hW hlocks hJ hr ⟨rfl, by omega⟩ dX6_set_70
      · refine lv_iload_n hx hb dX6_set_51 rfl (lv_at hl 2 rfl) ?_
        refine hq_iconst hx hb dX6_set_52 (by decide) (by decide) (fun z7 ez7 => ?_)
        refine hq_icmp_lt (tgt := 69) hx hb dX6_set_53 (by decide) (fun c8 => ?_) (fun c8 => ?_)
        · refine hq_iconst hx hb dX6_set_69 (by decide) (by decide) (fun z9 ez9 => ?_)
          exact hp_iret hx hb hK hN hW hlocks hJ hr ⟨rfl, by omega⟩ dX6_set_70
        · refine lv_iload_n hx hb dX6_set_56 rfl (lv_at hl 2 rfl) ?_
          refine hq_bipush hx hb dX6_set_57 (by decide) (fun z10 ez10 => ?_)
          refine hq_icmp_gt (tgt := 69) hx hb dX6_set_59 (by decide) (fun c11 => ?_) (fun c11 => ?_)
          · refine hq_iconst hx hb dX6_set_69 (by decide) (by decide) (fun z12 ez12 => ?_)
            exact hp_iret hx hb hK hN hW hlocks hJ hr ⟨rfl, by omega⟩ dX6_set_70
          · refine lv_aload_n hx hb dX6_set_62 rfl (lv_at hl 0 rfl) ?_
            refine lv_iload_n hx hb dX6_set_63 rfl (lv_at hl 2 rfl) ?_
            refine hp_put (C := RX6) (T := TX6) (N := 12) (ci := 6) (kd := 1) hx hb hts iX6_set_X6 hown hK hJ k0 rfl rfl 9 (by decide) (hts (.fieldLink RX6 54 "NeighborBook" "quick" "I") (List.mem_of_getElem? (i := 3) rfl)) (fun _ h9 => h9) tyX6 tyX6_ok nmX6 (v := .int v) rfl rfl (by decide) hW rfl (hs_i_ok rfl trivial) dX6_set_64 (fun H locs hJ => ?_)
            refine hq_iconst hx hb dX6_set_67 (by decide) (by decide) (fun z13 ez13 => ?_)
            exact hp_iret hx hb hK hN hW hlocks hJ hr ⟨rfl, by omega⟩ dX6_set_68
    · refine lv_iload_n hx hb dX6_set_28 rfl (lv_at hl 2 rfl) ?_
      refine hq_iconst hx hb dX6_set_29 (by decide) (by decide) (fun z14 ez14 => ?_)
      refine hq_icmp_lt (tgt := 46) hx hb dX6_set_30 (by decide) (fun c15 => ?_) (fun c15 => ?_)
      · refine lv_iload_n hx hb dX6_set_46 rfl (lv_at hl 1 rfl) ?_
        refine hq_iconst hx hb dX6_set_47 (by decide) (by decide) (fun z16 ez16 => ?_)
        refine hq_icmp_ne (tgt := 69) hx hb dX6_set_48 (by decide) (fun c17 => ?_) (fun c17 => ?_)
        · refine hq_iconst hx hb dX6_set_69 (by decide) (by decide) (fun z18 ez18 => ?_)
          exact hp_iret hx hb hK hN hW hlocks hJ hr ⟨rfl, by omega⟩ dX6_set_70
        · exfalso; omega
      · refine lv_iload_n hx hb dX6_set_33 rfl (lv_at hl 2 rfl) ?_
        refine hq_bipush hx hb dX6_set_34 (by decide) (fun z19 ez19 => ?_)
        refine hq_icmp_gt (tgt := 46) hx hb dX6_set_36 (by decide) (fun c20 => ?_) (fun c20 => ?_)
        · refine lv_iload_n hx hb dX6_set_46 rfl (lv_at hl 1 rfl) ?_
          refine hq_iconst hx hb dX6_set_47 (by decide) (by decide) (fun z21 ez21 => ?_)
          refine hq_icmp_ne (tgt := 69) hx hb dX6_set_48 (by decide) (fun c22 => ?_) (fun c22 => ?_)
          · refine hq_iconst hx hb dX6_set_69 (by decide) (by decide) (fun z23 ez23 => ?_)
            exact hp_iret hx hb hK hN hW hlocks hJ hr ⟨rfl, by omega⟩ dX6_set_70
          · exfalso; omega
        · refine lv_aload_n hx hb dX6_set_39 rfl (lv_at hl 0 rfl) ?_
          refine lv_iload_n hx hb dX6_set_40 rfl (lv_at hl 2 rfl) ?_
          refine hp_put (C := RX6) (T := TX6) (N := 12) (ci := 6) (kd := 1) hx hb hts iX6_set_X6 hown hK hJ k0 rfl rfl 8 (by decide) (hts (.fieldLink RX6 51 "NeighborBook" "hold" "I") (List.mem_of_getElem? (i := 2) rfl)) (fun _ h9 => h9) tyX6 tyX6_ok nmX6 (v := .int v) rfl rfl (by decide) hW rfl (hs_i_ok rfl trivial) dX6_set_41 (fun H locs hJ => ?_)
          refine hq_iconst hx hb dX6_set_44 (by decide) (by decide) (fun z24 ez24 => ?_)
          exact hp_iret hx hb hK hN hW hlocks hJ hr ⟨rfl, by omega⟩ dX6_set_45
  · refine lv_iload_n hx hb dX6_set_4 rfl (lv_at hl 2 rfl) ?_
    refine hq_iconst hx hb dX6_set_5 (by decide) (by decide) (fun z25 ez25 => ?_)
    refine hq_icmp_lt (tgt := 23) hx hb dX6_set_6 (by decide) (fun c26 => ?_) (fun c26 => ?_)
    · refine lv_iload_n hx hb dX6_set_23 rfl (lv_at hl 1 rfl) ?_
      refine hq_iconst hx hb dX6_set_24 (by decide) (by decide) (fun z27 ez27 => ?_)
      refine hq_icmp_ne (tgt := 46) hx hb dX6_set_25 (by decide) (fun c28 => ?_) (fun c28 => ?_)
      · refine lv_iload_n hx hb dX6_set_46 rfl (lv_at hl 1 rfl) ?_
        refine hq_iconst hx hb dX6_set_47 (by decide) (by decide) (fun z29 ez29 => ?_)
        refine hq_icmp_ne (tgt := 69) hx hb dX6_set_48 (by decide) (fun c30 => ?_) (fun c30 => ?_)
        · refine hq_iconst hx hb dX6_set_69 (by decide) (by decide) (fun z31 ez31 => ?_)
          exact hp_iret hx hb hK hN hW hlocks hJ hr ⟨rfl, by omega⟩ dX6_set_70
        · exfalso; omega
      · exfalso; omega
    · refine lv_iload_n hx hb dX6_set_9 rfl (lv_at hl 2 rfl) ?_
      refine hq_sipush hx hb dX6_set_10 (by decide) (fun z32 ez32 => ?_)
      refine hq_icmp_gt (tgt := 23) hx hb dX6_set_13 (by decide) (fun c33 => ?_) (fun c33 => ?_)
      · refine lv_iload_n hx hb dX6_set_23 rfl (lv_at hl 1 rfl) ?_
        refine hq_iconst hx hb dX6_set_24 (by decide) (by decide) (fun z34 ez34 => ?_)
        refine hq_icmp_ne (tgt := 46) hx hb dX6_set_25 (by decide) (fun c35 => ?_) (fun c35 => ?_)
        · refine lv_iload_n hx hb dX6_set_46 rfl (lv_at hl 1 rfl) ?_
          refine hq_iconst hx hb dX6_set_47 (by decide) (by decide) (fun z36 ez36 => ?_)
          refine hq_icmp_ne (tgt := 69) hx hb dX6_set_48 (by decide) (fun c37 => ?_) (fun c37 => ?_)
          · refine hq_iconst hx hb dX6_set_69 (by decide) (by decide) (fun z38 ez38 => ?_)
            exact hp_iret hx hb hK hN hW hlocks hJ hr ⟨rfl, by omega⟩ dX6_set_70
          · exfalso; omega
        · exfalso; omega
      · refine lv_aload_n hx hb dX6_set_16 rfl (lv_at hl 0 rfl) ?_
        refine lv_iload_n hx hb dX6_set_17 rfl (lv_at hl 2 rfl) ?_
        refine hp_put (C := RX6) (T := TX6) (N := 12) (ci := 6) (kd := 1) hx hb hts iX6_set_X6 hown hK hJ k0 rfl rfl 7 (by decide) (hts (.fieldLink RX6 47 "NeighborBook" "interval" "I") (List.mem_of_getElem? (i := 1) rfl)) (fun _ h9 => h9) tyX6 tyX6_ok nmX6 (v := .int v) rfl rfl (by decide) hW rfl (hs_i_ok rfl trivial) dX6_set_18 (fun H locs hJ => ?_)
        refine hq_iconst hx hb dX6_set_21 (by decide) (by decide) (fun z39 ez39 => ?_)
        exact hp_iret hx hb hK hN hW hlocks hJ hr ⟨rfl, by omega⟩ dX6_set_22
theorem iX6_learn_X6 : ∀ w ∈ wsX60, w ∈ wsX6_learn := fun _ h => List.mem_cons_of_mem _ (List.mem_append_left _ (List.mem_append_left _ (List.mem_append_left _ (List.mem_append_left _ (List.mem_append_left _ (List.mem_append_right _ h))))))
theorem iX6_learn_X1 : ∀ w ∈ wsX10, w ∈ wsX6_learn := fun _ h => List.mem_cons_of_mem _ (List.mem_append_left _ (List.mem_append_left _ (List.mem_append_left _ (List.mem_append_left _ (List.mem_append_right _ h)))))
theorem iX6_learn_X3 : ∀ w ∈ wsX30, w ∈ wsX6_learn := fun _ h => List.mem_cons_of_mem _ (List.mem_append_left _ (List.mem_append_left _ (List.mem_append_left _ (List.mem_append_right _ h))))
theorem iX6_learn_X2 : ∀ w ∈ wsX20, w ∈ wsX6_learn := fun _ h => List.mem_cons_of_mem _ (List.mem_append_left _ (List.mem_append_left _ (List.mem_append_right _ h)))
theorem iX6_learn_X0 : ∀ w ∈ wsX00, w ∈ wsX6_learn := fun _ h => List.mem_cons_of_mem _ (List.mem_append_left _ (List.mem_append_right _ h))
theorem iX6_learn_X4 : ∀ w ∈ wsX40, w ∈ wsX6_learn := fun _ h => List.mem_cons_of_mem _ (List.mem_append_right _ h)
set_option maxRecDepth 100000 in
set_option maxHeartbeats 4000000 in
theorem c_X6_learn (l : Launch) (dC : Nat → ClassId) (dI : Nat → Nat → Nat) (dA : Nat → ClassId) (κ : Nat → Nat) (B : Nat) (g : Nat → Nat → Int) (h0 : Nat) (k0 : κ h0 = 1) (p1 : Int32) (hG : hg_k g) (hp0 : 0 ≤ p1.toInt) (hp3 : p1.toInt < 4) : Met l yX6_learn wsX6_learn ({ frames := 4, cells := 0, slots := 0, locals := 91 } : Room) (hp_Pre dC dI dA κ B g [Value.ref h0, Value.int p1]) (hp_Qi dC dI dA κ B (fun r u => hg_P hx_c g u ∧ hg_k u)) 0 0 (hp_A B) := by
  refine Met.ofW (cc := cX6_learn) (maxL := 4) (ret := (some .int)) (by decide) rfl ?_
  intro p e s m args below meth c s₁ Bd hml hv
  obtain ⟨rfl, hK, hN, hW, hF⟩ := hv
  have hx := Bd.exec
  have hb := Bd.bytes
  have hr := Bd.returns
  have hts := atoms_spec (ws := wsX6_learn) Bd.pre
  have hown : s.vm.findClass RX6 = some m.cls := findClass_of_methodNamed Bd.named
  have hlocks := Bd.notSynchronized
  have hJ : hp_J dC dI dA κ B g s.heap s.heap [] := ⟨hF, va_S.rf⟩
  have hl := lv_entry ([Value.ref h0, Value.int p1]) (n := 4) (Nat.le_of_ble_eq_true rfl)
  rw [lg_entry_eq]
  generalize (lg_sl ([Value.ref h0, Value.int p1]) ++ List.replicate (4 - (lg_sl ([Value.ref h0, Value.int p1])).length) Slot.unset).toArray = ls at hl ⊢
  have hl : lv_has ls 4 [(0, .ref h0), (1, .int p1)] := hl
  obtain ⟨hG1, hG2, hG3, hG4, hG5, hG6, hG7, hG8⟩ := id hG
  refine lv_aload_n hx hb dX6_learn_0 rfl (lv_at hl 0 rfl) ?_
  refine hp_getr (C := RX6) (T := TX6) (N := 12) (ci := 6) (kd := 1) hx hb hts iX6_learn_X6 hown hK hJ k0 rfl rfl 4 (by decide) (hts (.fieldLink RX6 29 "NeighborBook" "known" "LNeighborBook$Neighbors;") (List.mem_of_getElem? (i := 1) rfl)) (fun _ h9 => h9) rfl dX6_learn_1 (fun b1 kb1 => ?_)
  refine lv_iload_n hx hb dX6_learn_4 rfl (lv_at hl 1 rfl) ?_
  refine lv_aload_n hx hb dX6_learn_5 rfl (lv_at hl 0 rfl) ?_
  refine hp_getr (C := RX6) (T := TX6) (N := 12) (ci := 6) (kd := 1) hx hb hts iX6_learn_X6 hown hK hJ k0 rfl rfl 5 (by decide) (hts (.fieldLink RX6 36 "NeighborBook" "reader" "LNeighborBook$FrameReader;") (List.mem_of_getElem? (i := 2) rfl)) (fun _ h9 => h9) rfl dX6_learn_6 (fun b2 kb2 => ?_)
  refine hp_callr (va_runV (As := []) (rest := [.int p1, .ref b1]) ⟨hx, hb, hml, hown, hts⟩ (c_X1_contents l dC dI dA κ B g b2 kb2) (cwV 0 hts gX6_learn_X1_contents rfl rfl rfl (by decide +kernel) ⟨Nat.le_of_ble_eq_true rfl, Nat.le_of_ble_eq_true rfl⟩) (hp_preV (q := (RX1, TX1, 2)) [] hK hN hW hJ kb2 rfl rfl) rfl rfl hl.1 rfl (lv_room (Nat.le_of_ble_eq_true rfl)) dX6_learn_9 ⟨Nat.zero_le _, Nat.zero_le _⟩) hJ (fun b4 g3 H locs kb4 hp hJ => ?_)
  subst hp
  refine hp_calli (va_runV (As := [.int p1, .ref b4]) (rest := []) ⟨hx, hb, hml, hown, hts⟩ (c_X3_find l dC dI dA κ B g b1 kb1 p1 b4 kb4 hG) (cwV 2 hts gX6_learn_X3_find rfl rfl rfl (by decide +kernel) ⟨Nat.le_of_ble_eq_true rfl, Nat.le_of_ble_eq_true rfl⟩) (hp_preV (q := (RX3, TX3, 2)) [.int p1, .ref b4] hK hN hW hJ kb1 rfl rfl) rfl rfl hl.1 rfl (lv_room (Nat.le_of_ble_eq_true rfl)) dX6_learn_12 ⟨Nat.zero_le _, Nat.zero_le _⟩) hJ (fun x6 g5 H locs hp hJ => ?_)
  obtain ⟨rfl, f7⟩ := hp
  refine lv_istore_n (lv' := [(2, .int x6), (0, .ref h0), (1, .int p1)]) hx hb dX6_learn_15 rfl hl (by decide) rfl (fun ls hl => ?_)
  refine lv_aload_n hx hb dX6_learn_16 rfl (lv_at hl 1 rfl) ?_
  refine hp_getr (C := RX6) (T := TX6) (N := 12) (ci := 6) (kd := 1) hx hb hts iX6_learn_X6 hown hK hJ k0 rfl rfl 5 (by decide) (hts (.fieldLink RX6 36 "NeighborBook" "reader" "LNeighborBook$FrameReader;") (List.mem_of_getElem? (i := 2) rfl)) (fun _ h9 => h9) rfl dX6_learn_17 (fun b8 kb8 => ?_)
  refine hp_calli (va_runV (As := []) (rest := []) ⟨hx, hb, hml, hown, hts⟩ (c_X1_held l dC dI dA κ B g b8 kb8) (cwV 0 hts gX6_learn_X1_held rfl rfl rfl (by decide +kernel) ⟨Nat.le_of_ble_eq_true rfl, Nat.le_of_ble_eq_true rfl⟩) (hp_preV (q := (RX1, TX1, 2)) [] hK hN hW hJ kb8 rfl rfl) rfl rfl hl.1 rfl (lv_room (Nat.le_of_ble_eq_true rfl)) dX6_learn_20 ⟨Nat.zero_le _, Nat.zero_le _⟩) hJ (fun x10 g9 H locs hp hJ => ?_)
  subst hp
  refine hq_if_ne (tgt := 36) hx hb dX6_learn_23 (by decide) (fun c11 => ?_) (fun c11 => ?_)
  · refine lv_iload_n hx hb dX6_learn_36 rfl (lv_at hl 0 rfl) ?_
    refine hq_iconst hx hb dX6_learn_37 (by decide) (by decide) (fun z12 ez12 => ?_)
    refine hq_icmp_ne (tgt := 70) hx hb dX6_learn_38 (by decide) (fun c13 => ?_) (fun c13 => ?_)
    · refine lv_aload_n hx hb dX6_learn_70 rfl (lv_at hl 1 rfl) ?_
      refine hp_getr (C := RX6) (T := TX6) (N := 12) (ci := 6) (kd := 1) hx hb hts iX6_learn_X6 hown hK hJ k0 rfl rfl 4 (by decide) (hts (.fieldLink RX6 29 "NeighborBook" "known" "LNeighborBook$Neighbors;") (List.mem_of_getElem? (i := 1) rfl)) (fun _ h9 => h9) rfl dX6_learn_71 (fun b14 kb14 => ?_)
      refine lv_iload_n hx hb dX6_learn_74 rfl (lv_at hl 0 rfl) ?_
      refine hp_callr (va_runV (As := [.int x6]) (rest := []) ⟨hx, hb, hml, hown, hts⟩ (c_X3_at l dC dI dA κ B g b14 kb14 x6 (by omega) (by omega)) (cwV 1 hts gX6_learn_X3_at rfl rfl rfl (by decide +kernel) ⟨Nat.le_of_ble_eq_true rfl, Nat.le_of_ble_eq_true rfl⟩) (hp_preV (q := (RX3, TX3, 2)) [.int x6] hK hN hW hJ kb14 rfl rfl) rfl rfl hl.1 rfl (lv_room (Nat.le_of_ble_eq_true rfl)) dX6_learn_75 ⟨Nat.zero_le _, Nat.zero_le _⟩) hJ (fun b16 g15 H locs kb16 hp hJ => ?_)
      subst hp
      refine lv_aload_n hx hb dX6_learn_78 rfl (lv_at hl 1 rfl) ?_
      refine hp_getr (C := RX6) (T := TX6) (N := 12) (ci := 6) (kd := 1) hx hb hts iX6_learn_X6 hown hK hJ k0 rfl rfl 5 (by decide) (hts (.fieldLink RX6 36 "NeighborBook" "reader" "LNeighborBook$FrameReader;") (List.mem_of_getElem? (i := 2) rfl)) (fun _ h9 => h9) rfl dX6_learn_79 (fun b17 kb17 => ?_)
      refine hp_callr (va_runV (As := []) (rest := [.ref b16]) ⟨hx, hb, hml, hown, hts⟩ (c_X1_contents l dC dI dA κ B g b17 kb17) (cwV 0 hts gX6_learn_X1_contents rfl rfl rfl (by decide +kernel) ⟨Nat.le_of_ble_eq_true rfl, Nat.le_of_ble_eq_true rfl⟩) (hp_preV (q := (RX1, TX1, 2)) [] hK hN hW hJ kb17 rfl rfl) rfl rfl hl.1 rfl (lv_room (Nat.le_of_ble_eq_true rfl)) dX6_learn_82 ⟨Nat.zero_le _, Nat.zero_le _⟩) hJ (fun b19 g18 H locs kb19 hp hJ => ?_)
      subst hp
      refine lv_aload_n hx hb dX6_learn_85 rfl (lv_at hl 1 rfl) ?_
      refine hp_getr (C := RX6) (T := TX6) (N := 12) (ci := 6) (kd := 1) hx hb hts iX6_learn_X6 hown hK hJ k0 rfl rfl 5 (by decide) (hts (.fieldLink RX6 36 "NeighborBook" "reader" "LNeighborBook$FrameReader;") (List.mem_of_getElem? (i := 2) rfl)) (fun _ h9 => h9) rfl dX6_learn_86 (fun b20 kb20 => ?_)
      refine hp_calli (va_runV (As := []) (rest := [.ref b19, .ref b16]) ⟨hx, hb, hml, hown, hts⟩ (c_X1_held l dC dI dA κ B g b20 kb20) (cwV 0 hts gX6_learn_X1_held rfl rfl rfl (by decide +kernel) ⟨Nat.le_of_ble_eq_true rfl, Nat.le_of_ble_eq_true rfl⟩) (hp_preV (q := (RX1, TX1, 2)) [] hK hN hW hJ kb20 rfl rfl) rfl rfl hl.1 rfl (lv_room (Nat.le_of_ble_eq_true rfl)) dX6_learn_89 ⟨Nat.zero_le _, Nat.zero_le _⟩) hJ (fun x22 g21 H locs hp hJ => ?_)
      subst hp
      refine hp_callr (va_runV (As := [.ref b19, .int x22]) (rest := []) ⟨hx, hb, hml, hown, hts⟩ (c_X2_renew l dC dI dA κ B g b16 kb16 b19 kb19 x22) (cwV 2 hts gX6_learn_X2_renew rfl rfl rfl (by decide +kernel) ⟨Nat.le_of_ble_eq_true rfl, Nat.le_of_ble_eq_true rfl⟩) (hp_preV (q := (RX2, TX2, 4)) [.ref b19, .int x22] hK hN hW hJ kb16 rfl rfl) rfl rfl hl.1 rfl (lv_room (Nat.le_of_ble_eq_true rfl)) dX6_learn_92 ⟨Nat.zero_le _, Nat.zero_le _⟩) hJ (fun b24 g23 H locs kb24 hp hJ => ?_)
      subst hp
      refine lv_astore_n (lv' := [(3, .ref b24), (2, .int x6), (0, .ref h0), (1, .int p1)]) hx hb dX6_learn_95 rfl hl (by decide) rfl (fun ls hl => ?_)
      refine lv_aload_n hx hb dX6_learn_96 rfl (lv_at hl 2 rfl) ?_
      refine hp_getr (C := RX6) (T := TX6) (N := 12) (ci := 6) (kd := 1) hx hb hts iX6_learn_X6 hown hK hJ k0 rfl rfl 5 (by decide) (hts (.fieldLink RX6 36 "NeighborBook" "reader" "LNeighborBook$FrameReader;") (List.mem_of_getElem? (i := 2) rfl)) (fun _ h9 => h9) rfl dX6_learn_97 (fun b25 kb25 => ?_)
      refine lv_aload_n hx hb dX6_learn_100 rfl (lv_at hl 0 rfl) ?_
      refine hp_callv (va_runV (As := [.ref b24]) (rest := []) ⟨hx, hb, hml, hown, hts⟩ (c_X1_useNext l dC dI dA κ B g b25 kb25 b24 kb24) (cwV 1 hts gX6_learn_X1_useNext rfl rfl rfl (by decide +kernel) ⟨Nat.le_of_ble_eq_true rfl, Nat.le_of_ble_eq_true rfl⟩) (hp_preV (q := (RX1, TX1, 2)) [.ref b24] hK hN hW hJ kb25 rfl rfl) rfl rfl hl.1 rfl (lv_room (Nat.le_of_ble_eq_true rfl)) dX6_learn_101 ⟨Nat.zero_le _, Nat.zero_le _⟩) hJ (fun g26 H locs hp hJ => ?_)
      subst hp
      refine hq_iconst hx hb dX6_learn_104 (by decide) (by decide) (fun z27 ez27 => ?_)
      exact hp_iret hx hb hK hN hW hlocks hJ hr ⟨hg_P.rf, hG⟩ dX6_learn_105
    · refine lv_aload_n hx hb dX6_learn_41 rfl (lv_at hl 1 rfl) ?_
      refine hp_getr (C := RX6) (T := TX6) (N := 12) (ci := 6) (kd := 1) hx hb hts iX6_learn_X6 hown hK hJ k0 rfl rfl 4 (by decide) (hts (.fieldLink RX6 29 "NeighborBook" "known" "LNeighborBook$Neighbors;") (List.mem_of_getElem? (i := 1) rfl)) (fun _ h9 => h9) rfl dX6_learn_42 (fun b28 kb28 => ?_)
      refine lv_iload_n hx hb dX6_learn_45 rfl (lv_at hl 2 rfl) ?_
      refine hp_calli (va_runV (As := [.int p1]) (rest := []) ⟨hx, hb, hml, hown, hts⟩ (c_X3_add l dC dI dA κ B g b28 kb28 p1 hG) (cwV 1 hts gX6_learn_X3_add rfl rfl rfl (by decide +kernel) ⟨Nat.le_of_ble_eq_true rfl, Nat.le_of_ble_eq_true rfl⟩) (hp_preV (q := (RX3, TX3, 2)) [.int p1] hK hN hW hJ kb28 rfl rfl) rfl rfl hl.1 rfl (lv_room (Nat.le_of_ble_eq_true rfl)) dX6_learn_46 ⟨Nat.zero_le _, Nat.zero_le _⟩) hJ (fun x30 g29 H locs hp hJ => ?_)
      obtain ⟨P32a, K33, f31⟩ := hp
      obtain ⟨K331, K332, K333, K334, K335, K336, K337, K338⟩ := id K33
      have P32 : hg_P hx_c g g29 := P32a
      have qt34 : g29 1 1 = g 1 1 := P32a 1 1 rfl
      have qt35 : g29 11 1 = g 11 1 := P32a 11 1 rfl
      have qt36 : g29 11 13 = g 11 13 := P32a 11 13 rfl
      have qt37 : g29 11 22 = g 11 22 := P32a 11 22 rfl
      refine lv_istore_n (lv' := [(2, .int x30), (0, .ref h0), (1, .int p1)]) hx hb dX6_learn_49 rfl hl (by decide) rfl (fun ls hl => ?_)
      refine lv_iload_n hx hb dX6_learn_50 rfl (lv_at hl 0 rfl) ?_
      refine hq_iconst hx hb dX6_learn_51 (by decide) (by decide) (fun z38 ez38 => ?_)
      refine hq_icmp_ne (tgt := 57) hx hb dX6_learn_52 (by decide) (fun c39 => ?_) (fun c39 => ?_)
      · refine lv_aload_n hx hb dX6_learn_57 rfl (lv_at hl 1 rfl) ?_
        refine hp_getr (C := RX6) (T := TX6) (N := 12) (ci := 6) (kd := 1) hx hb hts iX6_learn_X6 hown hK hJ k0 rfl rfl 3 (by decide) (hts (.fieldLink RX6 22 "NeighborBook" "ports" "[LNeighborBook$Port;") (List.mem_of_getElem? (i := 3) rfl)) (fun _ h9 => h9) rfl dX6_learn_58 (fun b40 kb40 => ?_)
        refine lv_iload_n hx hb dX6_learn_61 rfl (lv_at hl 2 rfl) ?_
        refine hp_aald3 (kd := 15) (n := 4) hx hb hK hJ kb40 rfl (by omega) (by omega) (hk_s15 (by omega)) dX6_learn_62 (fun b41 kb41 => ?_)
        refine lv_aload_n hx hb dX6_learn_63 rfl (lv_at hl 1 rfl) ?_
        refine hp_geti (C := RX6) (T := TX6) (N := 12) (ci := 6) (kd := 1) hx hb hts iX6_learn_X6 hown hK hJ k0 rfl rfl 9 (by decide) (hts (.fieldLink RX6 54 "NeighborBook" "quick" "I") (List.mem_of_getElem? (i := 4) rfl)) (fun _ h9 => h9) rfl rfl dX6_learn_64 (fun x42 ex42 => ?_)
        refine hp_callv (va_runV (As := [.int x42]) (rest := []) ⟨hx, hb, hml, hown, hts⟩ (c_X4_greet l dC dI dA κ B g29 (p1.toInt.toNat) (by omega : p1.toInt.toNat < 4) b41 kb41 x42 K33) (cwV 1 hts gX6_learn_X4_greet rfl rfl rfl (by decide +kernel) ⟨Nat.le_of_ble_eq_true rfl, Nat.le_of_ble_eq_true rfl⟩) (hp_preV (q := (RX4, TX4, 6)) [.int x42] hK hN hW hJ kb41 (hk_t5 (by omega : p1.toInt.toNat < 4)) rfl) rfl rfl hl.1 rfl (lv_room (Nat.le_of_ble_eq_true rfl)) dX6_learn_67 ⟨Nat.zero_le _, Nat.zero_le _⟩) hJ (fun g43 H locs hp hJ => ?_)
        obtain ⟨P45a, K46⟩ := hp
        obtain ⟨K461, K462, K463, K464, K465, K466, K467, K468⟩ := id K46
        have P45 : hg_P hx_c g g43 := hg_P.tr P32 P45a
        have qt47 : g43 1 1 = g29 1 1 := P45a 1 1 rfl
        have qt48 : g43 11 1 = g29 11 1 := P45a 11 1 rfl
        have qt49 : g43 11 13 = g29 11 13 := P45a 11 13 rfl
        have qt50 : g43 11 22 = g29 11 22 := P45a 11 22 rfl
        refine lv_aload_n hx hb dX6_learn_70 rfl (lv_at hl 1 rfl) ?_
        refine hp_getr (C := RX6) (T := TX6) (N := 12) (ci := 6) (kd := 1) hx hb hts iX6_learn_X6 hown hK hJ k0 rfl rfl 4 (by decide) (hts (.fieldLink RX6 29 "NeighborBook" "known" "LNeighborBook$Neighbors;") (List.mem_of_getElem? (i := 1) rfl)) (fun _ h9 => h9) rfl dX6_learn_71 (fun b51 kb51 => ?_)
        refine lv_iload_n hx hb dX6_learn_74 rfl (lv_at hl 0 rfl) ?_
        refine hp_callr (va_runV (As := [.int x30]) (rest := []) ⟨hx, hb, hml, hown, hts⟩ (c_X3_at l dC dI dA κ B g43 b51 kb51 x30 (by omega) (by omega)) (cwV 1 hts gX6_learn_X3_at rfl rfl rfl (by decide +kernel) ⟨Nat.le_of_ble_eq_true rfl, Nat.le_of_ble_eq_true rfl⟩) (hp_preV (q := (RX3, TX3, 2)) [.int x30] hK hN hW hJ kb51 rfl rfl) rfl rfl hl.1 rfl (lv_room (Nat.le_of_ble_eq_true rfl)) dX6_learn_75 ⟨Nat.zero_le _, Nat.zero_le _⟩) hJ (fun b53 g52 H locs kb53 hp hJ => ?_)
        subst hp
        refine lv_aload_n hx hb dX6_learn_78 rfl (lv_at hl 1 rfl) ?_
        refine hp_getr (C := RX6) (T := TX6) (N := 12) (ci := 6) (kd := 1) hx hb hts iX6_learn_X6 hown hK hJ k0 rfl rfl 5 (by decide) (hts (.fieldLink RX6 36 "NeighborBook" "reader" "LNeighborBook$FrameReader;") (List.mem_of_getElem? (i := 2) rfl)) (fun _ h9 => h9) rfl dX6_learn_79 (fun b54 kb54 => ?_)
        refine hp_callr (va_runV (As := []) (rest := [.ref b53]) ⟨hx, hb, hml, hown, hts⟩ (c_X1_contents l dC dI dA κ B g43 b54 kb54) (cwV 0 hts gX6_learn_X1_contents rfl rfl rfl (by decide +kernel) ⟨Nat.le_of_ble_eq_true rfl, Nat.le_of_ble_eq_true rfl⟩) (hp_preV (q := (RX1, TX1, 2)) [] hK hN hW hJ kb54 rfl rfl) rfl rfl hl.1 rfl (lv_room (Nat.le_of_ble_eq_true rfl)) dX6_learn_82 ⟨Nat.zero_le _, Nat.zero_le _⟩) hJ (fun b56 g55 H locs kb56 hp hJ => ?_)
        subst hp
        refine lv_aload_n hx hb dX6_learn_85 rfl (lv_at hl 1 rfl) ?_
        refine hp_getr (C := RX6) (T := TX6) (N := 12) (ci := 6) (kd := 1) hx hb hts iX6_learn_X6 hown hK hJ k0 rfl rfl 5 (by decide) (hts (.fieldLink RX6 36 "NeighborBook" "reader" "LNeighborBook$FrameReader;") (List.mem_of_getElem? (i := 2) rfl)) (fun _ h9 => h9) rfl dX6_learn_86 (fun b57 kb57 => ?_)
        refine hp_calli (va_runV (As := []) (rest := [.ref b56, .ref b53]) ⟨hx, hb, hml, hown, hts⟩ (c_X1_held l dC dI dA κ B g43 b57 kb57) (cwV 0 hts gX6_learn_X1_held rfl rfl rfl (by decide +kernel) ⟨Nat.le_of_ble_eq_true rfl, Nat.le_of_ble_eq_true rfl⟩) (hp_preV (q := (RX1, TX1, 2)) [] hK hN hW hJ kb57 rfl rfl) rfl rfl hl.1 rfl (lv_room (Nat.le_of_ble_eq_true rfl)) dX6_learn_89 ⟨Nat.zero_le _, Nat.zero_le _⟩) hJ (fun x59 g58 H locs hp hJ => ?_)
        subst hp
        refine hp_callr (va_runV (As := [.ref b56, .int x59]) (rest := []) ⟨hx, hb, hml, hown, hts⟩ (c_X2_renew l dC dI dA κ B g43 b53 kb53 b56 kb56 x59) (cwV 2 hts gX6_learn_X2_renew rfl rfl rfl (by decide +kernel) ⟨Nat.le_of_ble_eq_true rfl, Nat.le_of_ble_eq_true rfl⟩) (hp_preV (q := (RX2, TX2, 4)) [.ref b56, .int x59] hK hN hW hJ kb53 rfl rfl) rfl rfl hl.1 rfl (lv_room (Nat.le_of_ble_eq_true rfl)) dX6_learn_92 ⟨Nat.zero_le _, Nat.zero_le _⟩) hJ (fun b61 g60 H locs kb61 hp hJ => ?_)
        subst hp
        refine lv_astore_n (lv' := [(3, .ref b61), (2, .int x30), (0, .ref h0), (1, .int p1)]) hx hb dX6_learn_95 rfl hl (by decide) rfl (fun ls hl => ?_)
        refine lv_aload_n hx hb dX6_learn_96 rfl (lv_at hl 2 rfl) ?_
        refine hp_getr (C := RX6) (T := TX6) (N := 12) (ci := 6) (kd := 1) hx hb hts iX6_learn_X6 hown hK hJ k0 rfl rfl 5 (by decide) (hts (.fieldLink RX6 36 "NeighborBook" "reader" "LNeighborBook$FrameReader;") (List.mem_of_getElem? (i := 2) rfl)) (fun _ h9 => h9) rfl dX6_learn_97 (fun b62 kb62 => ?_)
        refine lv_aload_n hx hb dX6_learn_100 rfl (lv_at hl 0 rfl) ?_
        refine hp_callv (va_runV (As := [.ref b61]) (rest := []) ⟨hx, hb, hml, hown, hts⟩ (c_X1_useNext l dC dI dA κ B g43 b62 kb62 b61 kb61) (cwV 1 hts gX6_learn_X1_useNext rfl rfl rfl (by decide +kernel) ⟨Nat.le_of_ble_eq_true rfl, Nat.le_of_ble_eq_true rfl⟩) (hp_preV (q := (RX1, TX1, 2)) [.ref b61] hK hN hW hJ kb62 rfl rfl) rfl rfl hl.1 rfl (lv_room (Nat.le_of_ble_eq_true rfl)) dX6_learn_101 ⟨Nat.zero_le _, Nat.zero_le _⟩) hJ (fun g63 H locs hp hJ => ?_)
        subst hp
        refine hq_iconst hx hb dX6_learn_104 (by decide) (by decide) (fun z64 ez64 => ?_)
        exact hp_iret hx hb hK hN hW hlocks hJ hr ⟨P45, K46⟩ dX6_learn_105
      · refine hq_iconst hx hb dX6_learn_55 (by decide) (by decide) (fun z65 ez65 => ?_)
        exact hp_iret hx hb hK hN hW hlocks hJ hr ⟨P32, K33⟩ dX6_learn_56
  · refine lv_aload_n hx hb dX6_learn_26 rfl (lv_at hl 1 rfl) ?_
    refine hp_getr (C := RX6) (T := TX6) (N := 12) (ci := 6) (kd := 1) hx hb hts iX6_learn_X6 hown hK hJ k0 rfl rfl 4 (by decide) (hts (.fieldLink RX6 29 "NeighborBook" "known" "LNeighborBook$Neighbors;") (List.mem_of_getElem? (i := 1) rfl)) (fun _ h9 => h9) rfl dX6_learn_27 (fun b66 kb66 => ?_)
    refine lv_iload_n hx hb dX6_learn_30 rfl (lv_at hl 0 rfl) ?_
    refine hp_callv (va_runV (As := [.int x6]) (rest := []) ⟨hx, hb, hml, hown, hts⟩ (c_X3_forget l dC dI dA κ B g b66 kb66 x6 hG) (cwV 1 hts gX6_learn_X3_forget rfl rfl rfl (by decide +kernel) ⟨Nat.le_of_ble_eq_true rfl, Nat.le_of_ble_eq_true rfl⟩) (hp_preV (q := (RX3, TX3, 2)) [.int x6] hK hN hW hJ kb66 rfl rfl) rfl rfl hl.1 rfl (lv_room (Nat.le_of_ble_eq_true rfl)) dX6_learn_31 ⟨Nat.zero_le _, Nat.zero_le _⟩) hJ (fun g67 H locs hp hJ => ?_)
    obtain ⟨P69a, K70⟩ := hp
    obtain ⟨K701, K702, K703, K704, K705, K706, K707, K708⟩ := id K70
    have P69 : hg_P hx_c g g67 := P69a
    have qt71 : g67 1 1 = g 1 1 := P69a 1 1 rfl
    have qt72 : g67 11 1 = g 11 1 := P69a 11 1 rfl
    have qt73 : g67 11 13 = g 11 13 := P69a 11 13 rfl
    have qt74 : g67 11 22 = g 11 22 := P69a 11 22 rfl
    refine hq_iconst hx hb dX6_learn_34 (by decide) (by decide) (fun z75 ez75 => ?_)
    exact hp_iret hx hb hK hN hW hlocks hJ hr ⟨P69, K70⟩ dX6_learn_35
end
section
theorem iX6_about_X6 : ∀ w ∈ wsX60, w ∈ wsX6_about := fun _ h => List.mem_cons_of_mem _ (List.mem_append_left _ (List.mem_append_left _ (List.mem_append_left _ (List.mem_append_right _ h))))
theorem iX6_about_X3 : ∀ w ∈ wsX30, w ∈ wsX6_about := fun _ h => List.mem_cons_of_mem _ (List.mem_append_left _ (List.mem_append_left _ (List.mem_append_right _ h)))
theorem iX6_about_X2 : ∀ w ∈ wsX20, w ∈ wsX6_about := fun _ h => List.mem_cons_of_mem _ (List.mem_append_left _ (List.mem_append_right _ h))
theorem iX6_about_X4 : ∀ w ∈ wsX40, w ∈ wsX6_about := fun _ h => List.mem_cons_of_mem _ (List.mem_append_right _ h)
set_option maxRecDepth 100000 in
set_option maxHeartbeats 4000000 in
theorem c_X6_about (l : Launch) (dC : Nat → ClassId) (dI : Nat → Nat → Nat) (dA : Nat → ClassId) (κ : Nat → Nat) (B : Nat) (g : Nat → Nat → Int) (h0 : Nat) (k0 : κ h0 = 1) (p1 : Int32) (what : Int32) (hG : hg_k g) : Met l yX6_about wsX6_about ({ frames := 2, cells := 0, slots := 0, locals := 43 } : Room) (hp_Pre dC dI dA κ B g [Value.ref h0, Value.int p1, Value.int what]) (hp_Qi dC dI dA κ B (fun r u => g = u)) 0 0 (hp_A B) := by
  refine Met.ofW (cc := cX6_about) (maxL := 3) (ret := (some .int)) (by decide) rfl ?_
  intro p e s m args below meth c s₁ Bd hml hv
  obtain ⟨rfl, hK, hN, hW, hF⟩ := hv
  have hx := Bd.exec
  have hb := Bd.bytes
  have hr := Bd.returns
  have hts := atoms_spec (ws := wsX6_about) Bd.pre
  have hown : s.vm.findClass RX6 = some m.cls := findClass_of_methodNamed Bd.named
  have hlocks := Bd.notSynchronized
  have hJ : hp_J dC dI dA κ B g s.heap s.heap [] := ⟨hF, va_S.rf⟩
  have hl := lv_entry ([Value.ref h0, Value.int p1, Value.int what]) (n := 3) (Nat.le_of_ble_eq_true rfl)
  rw [lg_entry_eq]
  generalize (lg_sl ([Value.ref h0, Value.int p1, Value.int what]) ++ List.replicate (3 - (lg_sl ([Value.ref h0, Value.int p1, Value.int what])).length) Slot.unset).toArray = ls at hl ⊢
  have hl : lv_has ls 3 [(0, .ref h0), (1, .int p1), (2, .int what)] := hl
  obtain ⟨hG1, hG2, hG3, hG4, hG5, hG6, hG7, hG8⟩ := id hG
  refine lv_iload_n hx hb dX6_about_0 rfl (lv_at hl 1 rfl) ?_
  refine hp_calli (va_runS (As := [.int p1]) (rest := []) ⟨hx, hb, hml, hown, hts⟩ (c_X6_isPort l dC dI dA κ B g p1) (va_cwS 1 hts gX6_about_X6_isPort rfl rfl rfl (by decide +kernel) ⟨Nat.le_of_ble_eq_true rfl, Nat.le_of_ble_eq_true rfl⟩) (hp_preS [.int p1] hK hN hW hJ) rfl rfl hl.1 rfl (lv_room (Nat.le_of_ble_eq_true rfl)) dX6_about_1 ⟨Nat.zero_le _, Nat.zero_le _⟩) hJ (fun x2 g1 H locs hp hJ => ?_)
  obtain ⟨rfl, f3⟩ := hp
  refine hq_if_ne (tgt := 9) hx hb dX6_about_4 (by decide) (fun c4 => ?_) (fun c4 => ?_)
  · refine lv_iload_n hx hb dX6_about_9 rfl (lv_at hl 2 rfl) ?_
    refine hq_iconst hx hb dX6_about_10 (by decide) (by decide) (fun z5 ez5 => ?_)
    refine hq_icmp_ne (tgt := 23) hx hb dX6_about_11 (by decide) (fun c6 => ?_) (fun c6 => ?_)
    · refine lv_aload_n hx hb dX6_about_23 rfl (lv_at hl 0 rfl) ?_
      refine hp_getr (C := RX6) (T := TX6) (N := 12) (ci := 6) (kd := 1) hx hb hts iX6_about_X6 hown hK hJ k0 rfl rfl 3 (by decide) (hts (.fieldLink RX6 22 "NeighborBook" "ports" "[LNeighborBook$Port;") (List.mem_of_getElem? (i := 2) rfl)) (fun _ h9 => h9) rfl dX6_about_24 (fun b7 kb7 => ?_)
      refine lv_iload_n hx hb dX6_about_27 rfl (lv_at hl 1 rfl) ?_
      refine hp_aald3 (kd := 15) (n := 4) hx hb hK hJ kb7 rfl (by omega) (by omega) (hk_s15 (by omega)) dX6_about_28 (fun b8 kb8 => ?_)
      refine lv_iload_n hx hb dX6_about_29 rfl (lv_at hl 2 rfl) ?_
      refine hp_calli (va_runV (As := [.int what]) (rest := []) ⟨hx, hb, hml, hown, hts⟩ (c_X4_tellAbout l dC dI dA κ B g (p1.toInt.toNat) (by omega : p1.toInt.toNat < 4) b8 kb8 what hG) (cwV 1 hts gX6_about_X4_tellAbout rfl rfl rfl (by decide +kernel) ⟨Nat.le_of_ble_eq_true rfl, Nat.le_of_ble_eq_true rfl⟩) (hp_preV (q := (RX4, TX4, 6)) [.int what] hK hN hW hJ kb8 (hk_t5 (by omega : p1.toInt.toNat < 4)) rfl) rfl rfl hl.1 rfl (lv_room (Nat.le_of_ble_eq_true rfl)) dX6_about_30 ⟨Nat.zero_le _, Nat.zero_le _⟩) hJ (fun x10 g9 H locs hp hJ => ?_)
      obtain ⟨rfl, f11⟩ := hp
      exact hp_iret hx hb hK hN hW hlocks hJ hr rfl dX6_about_33
    · refine lv_aload_n hx hb dX6_about_14 rfl (lv_at hl 0 rfl) ?_
      refine hp_getr (C := RX6) (T := TX6) (N := 12) (ci := 6) (kd := 1) hx hb hts iX6_about_X6 hown hK hJ k0 rfl rfl 4 (by decide) (hts (.fieldLink RX6 29 "NeighborBook" "known" "LNeighborBook$Neighbors;") (List.mem_of_getElem? (i := 1) rfl)) (fun _ h9 => h9) rfl dX6_about_15 (fun b12 kb12 => ?_)
      refine lv_iload_n hx hb dX6_about_18 rfl (lv_at hl 1 rfl) ?_
      refine hp_calli (va_runV (As := [.int p1]) (rest := []) ⟨hx, hb, hml, hown, hts⟩ (c_X3_sizeAt l dC dI dA κ B g b12 kb12 p1 hG) (cwV 1 hts gX6_about_X3_sizeAt rfl rfl rfl (by decide +kernel) ⟨Nat.le_of_ble_eq_true rfl, Nat.le_of_ble_eq_true rfl⟩) (hp_preV (q := (RX3, TX3, 2)) [.int p1] hK hN hW hJ kb12 rfl rfl) rfl rfl hl.1 rfl (lv_room (Nat.le_of_ble_eq_true rfl)) dX6_about_19 ⟨Nat.zero_le _, Nat.zero_le _⟩) hJ (fun x14 g13 H locs hp hJ => ?_)
      obtain ⟨rfl, f15⟩ := hp
      exact hp_iret hx hb hK hN hW hlocks hJ hr rfl dX6_about_22
  · refine hq_iconst hx hb dX6_about_7 (by decide) (by decide) (fun z16 ez16 => ?_)
    exact hp_iret hx hb hK hN hW hlocks hJ hr rfl dX6_about_8
theorem iX6_count_X6 : ∀ w ∈ wsX60, w ∈ wsX6_count := fun _ h => List.mem_cons_of_mem _ (List.mem_append_left _ (List.mem_append_left _ (List.mem_append_right _ h)))
theorem iX6_count_X3 : ∀ w ∈ wsX30, w ∈ wsX6_count := fun _ h => List.mem_cons_of_mem _ (List.mem_append_left _ (List.mem_append_right _ h))
theorem iX6_count_X5 : ∀ w ∈ wsX50, w ∈ wsX6_count := fun _ h => List.mem_cons_of_mem _ (List.mem_append_right _ h)
set_option maxRecDepth 100000 in
set_option maxHeartbeats 4000000 in
theorem c_X6_count (l : Launch) (dC : Nat → ClassId) (dI : Nat → Nat → Nat) (dA : Nat → ClassId) (κ : Nat → Nat) (B : Nat) (g : Nat → Nat → Int) (h0 : Nat) (k0 : κ h0 = 1) (what : Int32) (hG : hg_k g) : Met l yX6_count wsX6_count ({ frames := 1, cells := 0, slots := 0, locals := 20 } : Room) (hp_Pre dC dI dA κ B g [Value.ref h0, Value.int what]) (hp_Qi dC dI dA κ B (fun r u => g = u)) 0 0 (hp_A B) := by
  refine Met.ofW (cc := cX6_count) (maxL := 2) (ret := (some .int)) (by decide) rfl ?_
  intro p e s m args below meth c s₁ Bd hml hv
  obtain ⟨rfl, hK, hN, hW, hF⟩ := hv
  have hx := Bd.exec
  have hb := Bd.bytes
  have hr := Bd.returns
  have hts := atoms_spec (ws := wsX6_count) Bd.pre
  have hown : s.vm.findClass RX6 = some m.cls := findClass_of_methodNamed Bd.named
  have hlocks := Bd.notSynchronized
  have hJ : hp_J dC dI dA κ B g s.heap s.heap [] := ⟨hF, va_S.rf⟩
  have hl := lv_entry ([Value.ref h0, Value.int what]) (n := 2) (Nat.le_of_ble_eq_true rfl)
  rw [lg_entry_eq]
  generalize (lg_sl ([Value.ref h0, Value.int what]) ++ List.replicate (2 - (lg_sl ([Value.ref h0, Value.int what])).length) Slot.unset).toArray = ls at hl ⊢
  have hl : lv_has ls 2 [(0, .ref h0), (1, .int what)] := hl
  obtain ⟨hG1, hG2, hG3, hG4, hG5, hG6, hG7, hG8⟩ := id hG
  refine lv_iload_n hx hb dX6_count_0 rfl (lv_at hl 1 rfl) ?_
  have h1 : (what.toInt < 0 ∨ 5 < what.toInt) ∨ what.toInt = 0 ∨ what.toInt = 1 ∨ what.toInt = 2 ∨ what.toInt = 3 ∨ what.toInt = 4 ∨ what.toInt = 5 := by omega
  rcases h1 with h1 | h1 | h1 | h1 | h1 | h1 | h1
  · refine lv_tableOut (tgt := 79) hx hb dX6_count_1 h1 (by decide) ?_
    refine hq_iconst hx hb dX6_count_79 (by decide) (by decide) (fun z2 ez2 => ?_)
    exact hp_iret hx hb hK hN hW hlocks hJ hr rfl dX6_count_80
  · refine lv_tableIn (off := 39) (tgt := 40) hx hb dX6_count_1 (by omega) (by omega) (by rw [h1]; rfl) (by decide) ?_
    refine lv_aload_n hx hb dX6_count_40 rfl (lv_at hl 0 rfl) ?_
    refine hp_getr (C := RX6) (T := TX6) (N := 12) (ci := 6) (kd := 1) hx hb hts iX6_count_X6 hown hK hJ k0 rfl rfl 4 (by decide) (hts (.fieldLink RX6 29 "NeighborBook" "known" "LNeighborBook$Neighbors;") (List.mem_of_getElem? (i := 1) rfl)) (fun _ h9 => h9) rfl dX6_count_41 (fun b3 kb3 => ?_)
    refine hp_calli (va_runV (As := []) (rest := []) ⟨hx, hb, hml, hown, hts⟩ (c_X3_size l dC dI dA κ B g b3 kb3) (cwV 0 hts gX6_count_X3_size rfl rfl rfl (by decide +kernel) ⟨Nat.le_of_ble_eq_true rfl, Nat.le_of_ble_eq_true rfl⟩) (hp_preV (q := (RX3, TX3, 2)) [] hK hN hW hJ kb3 rfl rfl) rfl rfl hl.1 rfl (lv_room (Nat.le_of_ble_eq_true rfl)) dX6_count_44 ⟨Nat.zero_le _, Nat.zero_le _⟩) hJ (fun x5 g4 H locs hp hJ => ?_)
    obtain ⟨rfl, f6⟩ := hp
    exact hp_iret hx hb hK hN hW hlocks hJ hr rfl dX6_count_47
  · refine lv_tableIn (off := 47) (tgt := 48) hx hb dX6_count_1 (by omega) (by omega) (by rw [h1]; rfl) (by decide) ?_
    refine lv_aload_n hx hb dX6_count_48 rfl (lv_at hl 0 rfl) ?_
    refine hp_geti (C := RX6) (T := TX6) (N := 12) (ci := 6) (kd := 1) hx hb hts iX6_count_X6 hown hK hJ k0 rfl rfl 10 (by decide) (hts (.fieldLink RX6 115 "NeighborBook" "ticks" "I") (List.mem_of_getElem? (i := 2) rfl)) (fun _ h9 => h9) rfl rfl dX6_count_49 (fun x7 ex7 => ?_)
    have ex7 : x7.toInt = g 1 10 := ex7
    exact hp_iret hx hb hK hN hW hlocks hJ hr rfl dX6_count_52
  · refine lv_tableIn (off := 52) (tgt := 53) hx hb dX6_count_1 (by omega) (by omega) (by rw [h1]; rfl) (by decide) ?_
    refine lv_aload_n hx hb dX6_count_53 rfl (lv_at hl 0 rfl) ?_
    refine hp_geti (C := RX6) (T := TX6) (N := 12) (ci := 6) (kd := 1) hx hb hts iX6_count_X6 hown hK hJ k0 rfl rfl 11 (by decide) (hts (.fieldLink RX6 112 "NeighborBook" "latestFault" "I") (List.mem_of_getElem? (i := 3) rfl)) (fun _ h9 => h9) rfl rfl dX6_count_54 (fun x8 ex8 => ?_)
    have ex8 : x8.toInt = g 1 11 := ex8
    exact hp_iret hx hb hK hN hW hlocks hJ hr rfl dX6_count_57
  · refine lv_tableIn (off := 57) (tgt := 58) hx hb dX6_count_1 (by omega) (by omega) (by rw [h1]; rfl) (by decide) ?_
    refine lv_aload_n hx hb dX6_count_58 rfl (lv_at hl 0 rfl) ?_
    refine hp_geti (C := RX6) (T := TX6) (N := 12) (ci := 6) (kd := 1) hx hb hts iX6_count_X6 hown hK hJ k0 rfl rfl 1 (by decide) (hts (.fieldLink RX6 65 "NeighborBook" "typedCount" "I") (List.mem_of_getElem? (i := 4) rfl)) (fun _ h9 => h9) rfl rfl dX6_count_59 (fun x9 ex9 => ?_)
    have ex9 : x9.toInt = g 1 1 := ex9
    exact hp_iret hx hb hK hN hW hlocks hJ hr rfl dX6_count_62
  · refine lv_tableIn (off := 62) (tgt := 63) hx hb dX6_count_1 (by omega) (by omega) (by rw [h1]; rfl) (by decide) ?_
    refine lv_aload_n hx hb dX6_count_63 rfl (lv_at hl 0 rfl) ?_
    refine hp_getr (C := RX6) (T := TX6) (N := 12) (ci := 6) (kd := 1) hx hb hts iX6_count_X6 hown hK hJ k0 rfl rfl 6 (by decide) (hts (.fieldLink RX6 43 "NeighborBook" "latest" "LNeighborBook$SentFrame;") (List.mem_of_getElem? (i := 5) rfl)) (fun _ h9 => h9) rfl dX6_count_64 (fun b10 kb10 => ?_)
    refine hp_calli (va_runV (As := []) (rest := []) ⟨hx, hb, hml, hown, hts⟩ (c_X5_portOf l dC dI dA κ B g b10 kb10) (cwV 0 hts gX6_count_X5_portOf rfl rfl rfl (by decide +kernel) ⟨Nat.le_of_ble_eq_true rfl, Nat.le_of_ble_eq_true rfl⟩) (hp_preV (q := (RX5, TX5, 3)) [] hK hN hW hJ kb10 rfl rfl) rfl rfl hl.1 rfl (lv_room (Nat.le_of_ble_eq_true rfl)) dX6_count_67 ⟨Nat.zero_le _, Nat.zero_le _⟩) hJ (fun x12 g11 H locs hp hJ => ?_)
    obtain ⟨rfl, f13⟩ := hp
    exact hp_iret hx hb hK hN hW hlocks hJ hr rfl dX6_count_70
  · refine lv_tableIn (off := 70) (tgt := 71) hx hb dX6_count_1 (by omega) (by omega) (by rw [h1]; rfl) (by decide) ?_
    refine lv_aload_n hx hb dX6_count_71 rfl (lv_at hl 0 rfl) ?_
    refine hp_getr (C := RX6) (T := TX6) (N := 12) (ci := 6) (kd := 1) hx hb hts iX6_count_X6 hown hK hJ k0 rfl rfl 6 (by decide) (hts (.fieldLink RX6 43 "NeighborBook" "latest" "LNeighborBook$SentFrame;") (List.mem_of_getElem? (i := 5) rfl)) (fun _ h9 => h9) rfl dX6_count_72 (fun b14 kb14 => ?_)
    refine hp_calli (va_runV (As := []) (rest := []) ⟨hx, hb, hml, hown, hts⟩ (c_X5_length l dC dI dA κ B g b14 kb14) (cwV 0 hts gX6_count_X5_length rfl rfl rfl (by decide +kernel) ⟨Nat.le_of_ble_eq_true rfl, Nat.le_of_ble_eq_true rfl⟩) (hp_preV (q := (RX5, TX5, 3)) [] hK hN hW hJ kb14 rfl rfl) rfl rfl hl.1 rfl (lv_room (Nat.le_of_ble_eq_true rfl)) dX6_count_75 ⟨Nat.zero_le _, Nat.zero_le _⟩) hJ (fun x16 g15 H locs hp hJ => ?_)
    obtain ⟨rfl, f17⟩ := hp
    exact hp_iret hx hb hK hN hW hlocks hJ hr rfl dX6_count_78
theorem iX6_sent_X6 : ∀ w ∈ wsX60, w ∈ wsX6_sent := fun _ h => List.mem_cons_of_mem _ (List.mem_append_left _ (List.mem_append_right _ h))
theorem iX6_sent_X5 : ∀ w ∈ wsX50, w ∈ wsX6_sent := fun _ h => List.mem_cons_of_mem _ (List.mem_append_right _ h)
set_option maxRecDepth 100000 in
set_option maxHeartbeats 4000000 in
theorem c_X6_sent (l : Launch) (dC : Nat → ClassId) (dI : Nat → Nat → Nat) (dA : Nat → ClassId) (κ : Nat → Nat) (B : Nat) (g : Nat → Nat → Int) (h0 : Nat) (k0 : κ h0 = 1) (k : Int32) (hG : hg_k g) : Met l yX6_sent wsX6_sent ({ frames := 1, cells := 0, slots := 0, locals := 21 } : Room) (hp_Pre dC dI dA κ B g [Value.ref h0, Value.int k]) (hp_Qi dC dI dA κ B (fun r u => g = u ∧ (g 4 1 = 0 → r.toInt = -1))) 0 0 (hp_A B) := by
  refine Met.ofW (cc := cX6_sent) (maxL := 2) (ret := (some .int)) (by decide) rfl ?_
  intro p e s m args below meth c s₁ Bd hml hv
  obtain ⟨rfl, hK, hN, hW, hF⟩ := hv
  have hx := Bd.exec
  have hb := Bd.bytes
  have hr := Bd.returns
  have hts := atoms_spec (ws := wsX6_sent) Bd.pre
  have hown : s.vm.findClass RX6 = some m.cls := findClass_of_methodNamed Bd.named
  have hlocks := Bd.notSynchronized
  have hJ : hp_J dC dI dA κ B g s.heap s.heap [] := ⟨hF, va_S.rf⟩
  have hl := lv_entry ([Value.ref h0, Value.int k]) (n := 2) (Nat.le_of_ble_eq_true rfl)
  rw [lg_entry_eq]
  generalize (lg_sl ([Value.ref h0, Value.int k]) ++ List.replicate (2 - (lg_sl ([Value.ref h0, Value.int k])).length) Slot.unset).toArray = ls at hl ⊢
  have hl : lv_has ls 2 [(0, .ref h0), (1, .int k)] := hl
  obtain ⟨hG1, hG2, hG3, hG4, hG5, hG6, hG7, hG8⟩ := id hG
  refine lv_aload_n hx hb dX6_sent_0 rfl (lv_at hl 0 rfl) ?_
  refine hp_getr (C := RX6) (T := TX6) (N := 12) (ci := 6) (kd := 1) hx hb hts iX6_sent_X6 hown hK hJ k0 rfl rfl 6 (by decide) (hts (.fieldLink RX6 43 "NeighborBook" "latest" "LNeighborBook$SentFrame;") (List.mem_of_getElem? (i := 1) rfl)) (fun _ h9 => h9) rfl dX6_sent_1 (fun b1 kb1 => ?_)
  refine lv_iload_n hx hb dX6_sent_4 rfl (lv_at hl 1 rfl) ?_
  refine hp_calli (va_runV (As := [.int k]) (rest := []) ⟨hx, hb, hml, hown, hts⟩ (c_X5_byteAt l dC dI dA κ B g b1 kb1 k hG) (cwV 1 hts gX6_sent_X5_byteAt rfl rfl rfl (by decide +kernel) ⟨Nat.le_of_ble_eq_true rfl, Nat.le_of_ble_eq_true rfl⟩) (hp_preV (q := (RX5, TX5, 3)) [.int k] hK hN hW hJ kb1 rfl rfl) rfl rfl hl.1 rfl (lv_room (Nat.le_of_ble_eq_true rfl)) dX6_sent_5 ⟨Nat.zero_le _, Nat.zero_le _⟩) hJ (fun x3 g2 H locs hp hJ => ?_)
  obtain ⟨rfl, f4⟩ := hp
  exact hp_iret hx hb hK hN hW hlocks hJ hr ⟨rfl, by omega⟩ dX6_sent_8
theorem iX6_neighbor_X6 : ∀ w ∈ wsX60, w ∈ wsX6_neighbor := fun _ h => List.mem_cons_of_mem _ (List.mem_append_left _ (List.mem_append_left _ (List.mem_append_left _ (List.mem_append_right _ h))))
theorem iX6_neighbor_X3 : ∀ w ∈ wsX30, w ∈ wsX6_neighbor := fun _ h => List.mem_cons_of_mem _ (List.mem_append_left _ (List.mem_append_left _ (List.mem_append_right _ h)))
theorem iX6_neighbor_X2 : ∀ w ∈ wsX20, w ∈ wsX6_neighbor := fun _ h => List.mem_cons_of_mem _ (List.mem_append_left _ (List.mem_append_right _ h))
theorem iX6_neighbor_X0 : ∀ w ∈ wsX00, w ∈ wsX6_neighbor := fun _ h => List.mem_cons_of_mem _ (List.mem_append_right _ h)
set_option maxRecDepth 100000 in
set_option maxHeartbeats 4000000 in
theorem c_X6_neighbor (l : Launch) (dC : Nat → ClassId) (dI : Nat → Nat → Nat) (dA : Nat → ClassId) (κ : Nat → Nat) (B : Nat) (g : Nat → Nat → Int) (h0 : Nat) (k0 : κ h0 = 1) (i : Int32) (what : Int32) (hG : hg_k g) : Met l yX6_neighbor wsX6_neighbor ({ frames := 4, cells := 0, slots := 0, locals := 85 } : Room) (hp_Pre dC dI dA κ B g [Value.ref h0, Value.int i, Value.int what]) (hp_Qi dC dI dA κ B (fun r u => g = u ∧ (g 10 1 = 0 → r.toInt = -1))) 0 0 (hp_A B) := by
  refine Met.ofW (cc := cX6_neighbor) (maxL := 3) (ret := (some .int)) (by decide) rfl ?_
  intro p e s m args below meth c s₁ Bd hml hv
  obtain ⟨rfl, hK, hN, hW, hF⟩ := hv
  have hx := Bd.exec
  have hb := Bd.bytes
  have hr := Bd.returns
  have hts := atoms_spec (ws := wsX6_neighbor) Bd.pre
  have hown : s.vm.findClass RX6 = some m.cls := findClass_of_methodNamed Bd.named
  have hlocks := Bd.notSynchronized
  have hJ : hp_J dC dI dA κ B g s.heap s.heap [] := ⟨hF, va_S.rf⟩
  have hl := lv_entry ([Value.ref h0, Value.int i, Value.int what]) (n := 3) (Nat.le_of_ble_eq_true rfl)
  rw [lg_entry_eq]
  generalize (lg_sl ([Value.ref h0, Value.int i, Value.int what]) ++ List.replicate (3 - (lg_sl ([Value.ref h0, Value.int i, Value.int what])).length) Slot.unset).toArray = ls at hl ⊢
  have hl : lv_has ls 3 [(0, .ref h0), (1, .int i), (2, .int what)] := hl
  obtain ⟨hG1, hG2, hG3, hG4, hG5, hG6, hG7, hG8⟩ := id hG
  refine lv_aload_n hx hb dX6_neighbor_0 rfl (lv_at hl 0 rfl) ?_
  refine hp_getr (C := RX6) (T := TX6) (N := 12) (ci := 6) (kd := 1) hx hb hts iX6_neighbor_X6 hown hK hJ k0 rfl rfl 4 (by decide) (hts (.fieldLink RX6 29 "NeighborBook" "known" "LNeighborBook$Neighbors;") (List.mem_of_getElem? (i := 1) rfl)) (fun _ h9 => h9) rfl dX6_neighbor_1 (fun b1 kb1 => ?_)
  refine lv_iload_n hx hb dX6_neighbor_4 rfl (lv_at hl 1 rfl) ?_
  refine hp_calli (va_runV (As := [.int i]) (rest := []) ⟨hx, hb, hml, hown, hts⟩ (c_X3_has l dC dI dA κ B g b1 kb1 i) (cwV 1 hts gX6_neighbor_X3_has rfl rfl rfl (by decide +kernel) ⟨Nat.le_of_ble_eq_true rfl, Nat.le_of_ble_eq_true rfl⟩) (hp_preV (q := (RX3, TX3, 2)) [.int i] hK hN hW hJ kb1 rfl rfl) rfl rfl hl.1 rfl (lv_room (Nat.le_of_ble_eq_true rfl)) dX6_neighbor_5 ⟨Nat.zero_le _, Nat.zero_le _⟩) hJ (fun x3 g2 H locs hp hJ => ?_)
  obtain ⟨rfl, f4⟩ := hp
  refine hq_if_ne (tgt := 13) hx hb dX6_neighbor_8 (by decide) (fun c5 => ?_) (fun c5 => ?_)
  · refine lv_aload_n hx hb dX6_neighbor_13 rfl (lv_at hl 0 rfl) ?_
    refine hp_getr (C := RX6) (T := TX6) (N := 12) (ci := 6) (kd := 1) hx hb hts iX6_neighbor_X6 hown hK hJ k0 rfl rfl 4 (by decide) (hts (.fieldLink RX6 29 "NeighborBook" "known" "LNeighborBook$Neighbors;") (List.mem_of_getElem? (i := 1) rfl)) (fun _ h9 => h9) rfl dX6_neighbor_14 (fun b6 kb6 => ?_)
    refine lv_iload_n hx hb dX6_neighbor_17 rfl (lv_at hl 1 rfl) ?_
    refine hp_callr (va_runV (As := [.int i]) (rest := []) ⟨hx, hb, hml, hown, hts⟩ (c_X3_at l dC dI dA κ B g b6 kb6 i (by omega) (by omega)) (cwV 1 hts gX6_neighbor_X3_at rfl rfl rfl (by decide +kernel) ⟨Nat.le_of_ble_eq_true rfl, Nat.le_of_ble_eq_true rfl⟩) (hp_preV (q := (RX3, TX3, 2)) [.int i] hK hN hW hJ kb6 rfl rfl) rfl rfl hl.1 rfl (lv_room (Nat.le_of_ble_eq_true rfl)) dX6_neighbor_18 ⟨Nat.zero_le _, Nat.zero_le _⟩) hJ (fun b8 g7 H locs kb8 hp hJ => ?_)
    subst hp
    refine lv_iload_n hx hb dX6_neighbor_21 rfl (lv_at hl 2 rfl) ?_
    refine hp_calli (va_runV (As := [.int what]) (rest := []) ⟨hx, hb, hml, hown, hts⟩ (c_X2_tellAbout l dC dI dA κ B g b8 kb8 what) (cwV 1 hts gX6_neighbor_X2_tellAbout rfl rfl rfl (by decide +kernel) ⟨Nat.le_of_ble_eq_true rfl, Nat.le_of_ble_eq_true rfl⟩) (hp_preV (q := (RX2, TX2, 4)) [.int what] hK hN hW hJ kb8 rfl rfl) rfl rfl hl.1 rfl (lv_room (Nat.le_of_ble_eq_true rfl)) dX6_neighbor_22 ⟨Nat.zero_le _, Nat.zero_le _⟩) hJ (fun x10 g9 H locs hp hJ => ?_)
    subst hp
    exact hp_iret hx hb hK hN hW hlocks hJ hr ⟨rfl, by omega⟩ dX6_neighbor_25
  · refine hq_iconst hx hb dX6_neighbor_11 (by decide) (by decide) (fun z11 ez11 => ?_)
    exact hp_iret hx hb hK hN hW hlocks hJ hr ⟨rfl, by omega⟩ dX6_neighbor_12
theorem iX6_content_X6 : ∀ w ∈ wsX60, w ∈ wsX6_content := fun _ h => List.mem_cons_of_mem _ (List.mem_append_left _ (List.mem_append_left _ (List.mem_append_left _ (List.mem_append_right _ h))))
theorem iX6_content_X3 : ∀ w ∈ wsX30, w ∈ wsX6_content := fun _ h => List.mem_cons_of_mem _ (List.mem_append_left _ (List.mem_append_left _ (List.mem_append_right _ h)))
theorem iX6_content_X2 : ∀ w ∈ wsX20, w ∈ wsX6_content := fun _ h => List.mem_cons_of_mem _ (List.mem_append_left _ (List.mem_append_right _ h))
theorem iX6_content_X0 : ∀ w ∈ wsX00, w ∈ wsX6_content := fun _ h => List.mem_cons_of_mem _ (List.mem_append_right _ h)
set_option maxRecDepth 100000 in
set_option maxHeartbeats 4000000 in
theorem c_X6_content (l : Launch) (dC : Nat → ClassId) (dI : Nat → Nat → Nat) (dA : Nat → ClassId) (κ : Nat → Nat) (B : Nat) (g : Nat → Nat → Int) (h0 : Nat) (k0 : κ h0 = 1) (i : Int32) (type : Int32) (k : Int32) (hG : hg_k g) : Met l yX6_content wsX6_content ({ frames := 2, cells := 0, slots := 0, locals := 43 } : Room) (hp_Pre dC dI dA κ B g [Value.ref h0, Value.int i, Value.int type, Value.int k]) (hp_Qi dC dI dA κ B (fun r u => g = u ∧ (g 10 1 = 0 → r.toInt = -1))) 0 0 (hp_A B) := by
  refine Met.ofW (cc := cX6_content) (maxL := 5) (ret := (some .int)) (by decide) rfl ?_
  intro p e s m args below meth c s₁ Bd hml hv
  obtain ⟨rfl, hK, hN, hW, hF⟩ := hv
  have hx := Bd.exec
  have hb := Bd.bytes
  have hr := Bd.returns
  have hts := atoms_spec (ws := wsX6_content) Bd.pre
  have hown : s.vm.findClass RX6 = some m.cls := findClass_of_methodNamed Bd.named
  have hlocks := Bd.notSynchronized
  have hJ : hp_J dC dI dA κ B g s.heap s.heap [] := ⟨hF, va_S.rf⟩
  have hl := lv_entry ([Value.ref h0, Value.int i, Value.int type, Value.int k]) (n := 5) (Nat.le_of_ble_eq_true rfl)
  rw [lg_entry_eq]
  generalize (lg_sl ([Value.ref h0, Value.int i, Value.int type, Value.int k]) ++ List.replicate (5 - (lg_sl ([Value.ref h0, Value.int i, Value.int type, Value.int k])).length) Slot.unset).toArray = ls at hl ⊢
  have hl : lv_has ls 5 [(0, .ref h0), (1, .int i), (2, .int type), (3, .int k)] := hl
  obtain ⟨hG1, hG2, hG3, hG4, hG5, hG6, hG7, hG8⟩ := id hG
  refine lv_aload_n hx hb dX6_content_0 rfl (lv_at hl 0 rfl) ?_
  refine hp_getr (C := RX6) (T := TX6) (N := 12) (ci := 6) (kd := 1) hx hb hts iX6_content_X6 hown hK hJ k0 rfl rfl 4 (by decide) (hts (.fieldLink RX6 29 "NeighborBook" "known" "LNeighborBook$Neighbors;") (List.mem_of_getElem? (i := 1) rfl)) (fun _ h9 => h9) rfl dX6_content_1 (fun b1 kb1 => ?_)
  refine lv_iload_n hx hb dX6_content_4 rfl (lv_at hl 1 rfl) ?_
  refine hp_calli (va_runV (As := [.int i]) (rest := []) ⟨hx, hb, hml, hown, hts⟩ (c_X3_has l dC dI dA κ B g b1 kb1 i) (cwV 1 hts gX6_content_X3_has rfl rfl rfl (by decide +kernel) ⟨Nat.le_of_ble_eq_true rfl, Nat.le_of_ble_eq_true rfl⟩) (hp_preV (q := (RX3, TX3, 2)) [.int i] hK hN hW hJ kb1 rfl rfl) rfl rfl hl.1 rfl (lv_room (Nat.le_of_ble_eq_true rfl)) dX6_content_5 ⟨Nat.zero_le _, Nat.zero_le _⟩) hJ (fun x3 g2 H locs hp hJ => ?_)
  obtain ⟨rfl, f4⟩ := hp
  refine hq_if_ne (tgt := 13) hx hb dX6_content_8 (by decide) (fun c5 => ?_) (fun c5 => ?_)
  · refine lv_aload_n hx hb dX6_content_13 rfl (lv_at hl 0 rfl) ?_
    refine hp_getr (C := RX6) (T := TX6) (N := 12) (ci := 6) (kd := 1) hx hb hts iX6_content_X6 hown hK hJ k0 rfl rfl 4 (by decide) (hts (.fieldLink RX6 29 "NeighborBook" "known" "LNeighborBook$Neighbors;") (List.mem_of_getElem? (i := 1) rfl)) (fun _ h9 => h9) rfl dX6_content_14 (fun b6 kb6 => ?_)
    refine lv_iload_n hx hb dX6_content_17 rfl (lv_at hl 1 rfl) ?_
    refine hp_callr (va_runV (As := [.int i]) (rest := []) ⟨hx, hb, hml, hown, hts⟩ (c_X3_at l dC dI dA κ B g b6 kb6 i (by omega) (by omega)) (cwV 1 hts gX6_content_X3_at rfl rfl rfl (by decide +kernel) ⟨Nat.le_of_ble_eq_true rfl, Nat.le_of_ble_eq_true rfl⟩) (hp_preV (q := (RX3, TX3, 2)) [.int i] hK hN hW hJ kb6 rfl rfl) rfl rfl hl.1 rfl (lv_room (Nat.le_of_ble_eq_true rfl)) dX6_content_18 ⟨Nat.zero_le _, Nat.zero_le _⟩) hJ (fun b8 g7 H locs kb8 hp hJ => ?_)
    subst hp
    refine hp_callr (va_runV (As := []) (rest := []) ⟨hx, hb, hml, hown, hts⟩ (c_X2_contents l dC dI dA κ B g b8 kb8) (cwV 0 hts gX6_content_X2_contents rfl rfl rfl (by decide +kernel) ⟨Nat.le_of_ble_eq_true rfl, Nat.le_of_ble_eq_true rfl⟩) (hp_preV (q := (RX2, TX2, 4)) [] hK hN hW hJ kb8 rfl rfl) rfl rfl hl.1 rfl (lv_room (Nat.le_of_ble_eq_true rfl)) dX6_content_21 ⟨Nat.zero_le _, Nat.zero_le _⟩) hJ (fun b10 g9 H locs kb10 hp hJ => ?_)
    subst hp
    refine lv_astore (lv' := [(4, .ref b10), (0, .ref h0), (1, .int i), (2, .int type), (3, .int k)]) hx hb dX6_content_24 hl (by decide) rfl (fun ls hl => ?_)
    refine lv_iload_n hx hb dX6_content_26 rfl (lv_at hl 4 rfl) ?_
    refine hq_iconst hx hb dX6_content_27 (by decide) (by decide) (fun z11 ez11 => ?_)
    refine hq_icmp_ne (tgt := 40) hx hb dX6_content_28 (by decide) (fun c12 => ?_) (fun c12 => ?_)
    · refine lv_aload hx hb dX6_content_40 (lv_at hl 0 rfl) ?_
      refine lv_iload_n hx hb dX6_content_42 rfl (lv_at hl 3 rfl) ?_
      refine lv_iload_n hx hb dX6_content_43 rfl (lv_at hl 4 rfl) ?_
      refine hp_calli (va_runV (As := [.int type, .int k]) (rest := []) ⟨hx, hb, hml, hown, hts⟩ (c_X0_byteAt l dC dI dA κ B g b10 kb10 type k) (cwV 2 hts gX6_content_X0_byteAt rfl rfl rfl (by decide +kernel) ⟨Nat.le_of_ble_eq_true rfl, Nat.le_of_ble_eq_true rfl⟩) (hp_preV (q := (RX0, TX0, 2)) [.int type, .int k] hK hN hW hJ kb10 rfl rfl) rfl rfl hl.1 rfl (lv_room (Nat.le_of_ble_eq_true rfl)) dX6_content_44 ⟨Nat.zero_le _, Nat.zero_le _⟩) hJ (fun x14 g13 H locs hp hJ => ?_)
      subst hp
      exact hp_iret hx hb hK hN hW hlocks hJ hr ⟨rfl, by omega⟩ dX6_content_47
    · refine lv_aload hx hb dX6_content_31 (lv_at hl 0 rfl) ?_
      refine lv_iload_n hx hb dX6_content_33 rfl (lv_at hl 3 rfl) ?_
      refine hp_calli (va_runV (As := [.int type]) (rest := []) ⟨hx, hb, hml, hown, hts⟩ (c_X0_sizeOf l dC dI dA κ B g b10 kb10 type) (cwV 1 hts gX6_content_X0_sizeOf rfl rfl rfl (by decide +kernel) ⟨Nat.le_of_ble_eq_true rfl, Nat.le_of_ble_eq_true rfl⟩) (hp_preV (q := (RX0, TX0, 2)) [.int type] hK hN hW hJ kb10 rfl rfl) rfl rfl hl.1 rfl (lv_room (Nat.le_of_ble_eq_true rfl)) dX6_content_34 ⟨Nat.zero_le _, Nat.zero_le _⟩) hJ (fun x16 g15 H locs hp hJ => ?_)
      obtain ⟨rfl, f17⟩ := hp
      refine lv_goto (tgt := 47) hx hb dX6_content_37 (by decide) ?_
      exact hp_iret hx hb hK hN hW hlocks hJ hr ⟨rfl, by omega⟩ dX6_content_47
  · refine hq_iconst hx hb dX6_content_11 (by decide) (by decide) (fun z18 ez18 => ?_)
    exact hp_iret hx hb hK hN hW hlocks hJ hr ⟨rfl, by omega⟩ dX6_content_12
theorem iX6_check_X6 : ∀ w ∈ wsX60, w ∈ wsX6_check := fun _ h => List.mem_cons_of_mem _ (List.mem_append_left _ (List.mem_append_left _ (List.mem_append_left _ (List.mem_append_left _ (List.mem_append_right _ h)))))
theorem iX6_check_X3 : ∀ w ∈ wsX30, w ∈ wsX6_check := fun _ h => List.mem_cons_of_mem _ (List.mem_append_left _ (List.mem_append_left _ (List.mem_append_left _ (List.mem_append_right _ h))))
theorem iX6_check_X2 : ∀ w ∈ wsX20, w ∈ wsX6_check := fun _ h => List.mem_cons_of_mem _ (List.mem_append_left _ (List.mem_append_left _ (List.mem_append_right _ h)))
theorem iX6_check_X4 : ∀ w ∈ wsX40, w ∈ wsX6_check := fun _ h => List.mem_cons_of_mem _ (List.mem_append_left _ (List.mem_append_right _ h))
theorem iX6_check_X0 : ∀ w ∈ wsX00, w ∈ wsX6_check := fun _ h => List.mem_cons_of_mem _ (List.mem_append_right _ h)
set_option maxRecDepth 100000 in
set_option maxHeartbeats 4000000 in
theorem c_X6_check (l : Launch) (dC : Nat → ClassId) (dI : Nat → Nat → Nat) (dA : Nat → ClassId) (κ : Nat → Nat) (B : Nat) (g : Nat → Nat → Int) (h0 : Nat) (k0 : κ h0 = 1) (hG : hg_k g) : Met l yX6_check wsX6_check ({ frames := 4, cells := 0, slots := 0, locals := 91 } : Room) (hp_Pre dC dI dA κ B g [Value.ref h0]) (hp_Qi dC dI dA κ B (fun r u => g = u ∧ (g 10 1 = 0 → r.toInt = 1))) 0 0 (hp_A B) := by
  refine Met.ofW (cc := cX6_check) (maxL := 3) (ret := (some .int)) (by decide) rfl ?_
  intro p e s m args below meth c s₁ Bd hml hv
  obtain ⟨rfl, hK, hN, hW, hF⟩ := hv
  have hx := Bd.exec
  have hb := Bd.bytes
  have hr := Bd.returns
  have hts := atoms_spec (ws := wsX6_check) Bd.pre
  have hown : s.vm.findClass RX6 = some m.cls := findClass_of_methodNamed Bd.named
  have hlocks := Bd.notSynchronized
  have hJ : hp_J dC dI dA κ B g s.heap s.heap [] := ⟨hF, va_S.rf⟩
  have hl := lv_entry ([Value.ref h0]) (n := 3) (Nat.le_of_ble_eq_true rfl)
  rw [lg_entry_eq]
  generalize (lg_sl ([Value.ref h0]) ++ List.replicate (3 - (lg_sl ([Value.ref h0])).length) Slot.unset).toArray = ls at hl ⊢
  have hl : lv_has ls 3 [(0, .ref h0)] := hl
  obtain ⟨hG1, hG2, hG3, hG4, hG5, hG6, hG7, hG8⟩ := id hG
  refine hq_iconst hx hb dX6_check_0 (by decide) (by decide) (fun z1 ez1 => ?_)
  refine lv_istore_n (lv' := [(1, .int z1), (0, .ref h0)]) hx hb dX6_check_1 rfl hl (by decide) rfl (fun ls hl => ?_)
  have lp3 : ∀ (nlp3 : Nat) (v2 : Int32) (H : Heap) (locs : List Loc) (ls : Array Slot), (0 ≤ v2.toInt) → (v2.toInt ≤ 12) → (13 - v2.toInt < (nlp3 : Int)) → hp_J dC dI dA κ B g s.heap H locs → lv_has ls 3 [(0, .ref h0), (1, .int v2)] → W p l e (headSpec wsX6_check ({ frames := 4, cells := 0, slots := 0, locals := 91 } : Room)).room s m ([Value.ref h0] : List Value).toArray below meth c H locs 0 0 (MQ below (hp_Qi dC dI dA κ B (fun r u => g = u ∧ (g 10 1 = 0 → r.toInt = 1))) ([Value.ref h0] : List Value).toArray s 0 0 (hp_A B)) (F0 m 2 ls []) := by
    intro nlp3
    induction nlp3 with
    | zero => intro v2 H locs ls iv5 iv6 hm4 hJ hl; exact absurd hm4 (by omega)
    | succ nlp3 ihlp3 =>
      intro v2 H locs ls iv5 iv6 hm4 hJ hl
      refine lv_iload_n hx hb dX6_check_2 rfl (lv_at hl 1 rfl) ?_
      refine lv_aload_n hx hb dX6_check_3 rfl (lv_at hl 0 rfl) ?_
      refine hp_getr (C := RX6) (T := TX6) (N := 12) (ci := 6) (kd := 1) hx hb hts iX6_check_X6 hown hK hJ k0 rfl rfl 4 (by decide) (hts (.fieldLink RX6 29 "NeighborBook" "known" "LNeighborBook$Neighbors;") (List.mem_of_getElem? (i := 1) rfl)) (fun _ h9 => h9) rfl dX6_check_4 (fun b7 kb7 => ?_)
      refine hp_calli (va_runV (As := []) (rest := [.int v2]) ⟨hx, hb, hml, hown, hts⟩ (c_X3_size l dC dI dA κ B g b7 kb7) (cwV 0 hts gX6_check_X3_size rfl rfl rfl (by decide +kernel) ⟨Nat.le_of_ble_eq_true rfl, Nat.le_of_ble_eq_true rfl⟩) (hp_preV (q := (RX3, TX3, 2)) [] hK hN hW hJ kb7 rfl rfl) rfl rfl hl.1 rfl (lv_room (Nat.le_of_ble_eq_true rfl)) dX6_check_7 ⟨Nat.zero_le _, Nat.zero_le _⟩) hJ (fun x9 g8 H locs hp hJ => ?_)
      obtain ⟨rfl, f10⟩ := hp
      refine hq_icmp_ge (tgt := 75) hx hb dX6_check_10 (by decide) (fun c11 => ?_) (fun c11 => ?_)
      · refine hq_iconst hx hb dX6_check_75 (by decide) (by decide) (fun z12 ez12 => ?_)
        exact hp_iret hx hb hK hN hW hlocks hJ hr ⟨rfl, by omega⟩ dX6_check_76
      · refine lv_aload_n hx hb dX6_check_13 rfl (lv_at hl 0 rfl) ?_
        refine hp_getr (C := RX6) (T := TX6) (N := 12) (ci := 6) (kd := 1) hx hb hts iX6_check_X6 hown hK hJ k0 rfl rfl 4 (by decide) (hts (.fieldLink RX6 29 "NeighborBook" "known" "LNeighborBook$Neighbors;") (List.mem_of_getElem? (i := 1) rfl)) (fun _ h9 => h9) rfl dX6_check_14 (fun b13 kb13 => ?_)
        refine lv_iload_n hx hb dX6_check_17 rfl (lv_at hl 1 rfl) ?_
        refine hp_callr (va_runV (As := [.int v2]) (rest := []) ⟨hx, hb, hml, hown, hts⟩ (c_X3_at l dC dI dA κ B g b13 kb13 v2 (by omega) (by omega)) (cwV 1 hts gX6_check_X3_at rfl rfl rfl (by decide +kernel) ⟨Nat.le_of_ble_eq_true rfl, Nat.le_of_ble_eq_true rfl⟩) (hp_preV (q := (RX3, TX3, 2)) [.int v2] hK hN hW hJ kb13 rfl rfl) rfl rfl hl.1 rfl (lv_room (Nat.le_of_ble_eq_true rfl)) dX6_check_18 ⟨Nat.zero_le _, Nat.zero_le _⟩) hJ (fun b15 g14 H locs kb15 hp hJ => ?_)
        subst hp
        refine hp_calli (va_runV (As := []) (rest := []) ⟨hx, hb, hml, hown, hts⟩ (c_X2_portOf l dC dI dA κ B g b15 kb15) (cwV 0 hts gX6_check_X2_portOf rfl rfl rfl (by decide +kernel) ⟨Nat.le_of_ble_eq_true rfl, Nat.le_of_ble_eq_true rfl⟩) (hp_preV (q := (RX2, TX2, 4)) [] hK hN hW hJ kb15 rfl rfl) rfl rfl hl.1 rfl (lv_room (Nat.le_of_ble_eq_true rfl)) dX6_check_21 ⟨Nat.zero_le _, Nat.zero_le _⟩) hJ (fun x17 g16 H locs hp hJ => ?_)
        subst hp
        refine lv_istore_n (lv' := [(2, .int x17), (0, .ref h0), (1, .int v2)]) hx hb dX6_check_24 rfl hl (by decide) rfl (fun ls hl => ?_)
        refine lv_iload_n hx hb dX6_check_25 rfl (lv_at hl 0 rfl) ?_
        refine hp_calli (va_runS (As := [.int x17]) (rest := []) ⟨hx, hb, hml, hown, hts⟩ (c_X6_isPort l dC dI dA κ B g x17) (va_cwS 1 hts gX6_check_X6_isPort rfl rfl rfl (by decide +kernel) ⟨Nat.le_of_ble_eq_true rfl, Nat.le_of_ble_eq_true rfl⟩) (hp_preS [.int x17] hK hN hW hJ) rfl rfl hl.1 rfl (lv_room (Nat.le_of_ble_eq_true rfl)) dX6_check_26 ⟨Nat.zero_le _, Nat.zero_le _⟩) hJ (fun x19 g18 H locs hp hJ => ?_)
        obtain ⟨rfl, f20⟩ := hp
        refine hq_if_eq (tgt := 67) hx hb dX6_check_29 (by decide) (fun c21 => ?_) (fun c21 => ?_)
        · refine hq_iconst hx hb dX6_check_67 (by decide) (by decide) (fun z22 ez22 => ?_)
          exact hp_iret hx hb hK hN hW hlocks hJ hr ⟨rfl, by omega⟩ dX6_check_68
        · refine lv_aload_n hx hb dX6_check_32 rfl (lv_at hl 1 rfl) ?_
          refine hp_getr (C := RX6) (T := TX6) (N := 12) (ci := 6) (kd := 1) hx hb hts iX6_check_X6 hown hK hJ k0 rfl rfl 3 (by decide) (hts (.fieldLink RX6 22 "NeighborBook" "ports" "[LNeighborBook$Port;") (List.mem_of_getElem? (i := 2) rfl)) (fun _ h9 => h9) rfl dX6_check_33 (fun b23 kb23 => ?_)
          refine lv_iload_n hx hb dX6_check_36 rfl (lv_at hl 0 rfl) ?_
          refine hp_aald3 (kd := 15) (n := 4) hx hb hK hJ kb23 rfl (by omega) (by omega) (hk_s15 (by omega)) dX6_check_37 (fun b24 kb24 => ?_)
          refine hp_calli (va_runV (As := []) (rest := []) ⟨hx, hb, hml, hown, hts⟩ (c_X4_isUp l dC dI dA κ B g (x17.toInt.toNat) (by omega : x17.toInt.toNat < 4) b24 kb24 hG) (cwV 0 hts gX6_check_X4_isUp rfl rfl rfl (by decide +kernel) ⟨Nat.le_of_ble_eq_true rfl, Nat.le_of_ble_eq_true rfl⟩) (hp_preV (q := (RX4, TX4, 6)) [] hK hN hW hJ kb24 (hk_t5 (by omega : x17.toInt.toNat < 4)) rfl) rfl rfl hl.1 rfl (lv_room (Nat.le_of_ble_eq_true rfl)) dX6_check_38 ⟨Nat.zero_le _, Nat.zero_le _⟩) hJ (fun x26 g25 H locs hp hJ => ?_)
          obtain ⟨rfl, f27⟩ := hp
          refine hq_if_eq (tgt := 67) hx hb dX6_check_41 (by decide) (fun c28 => ?_) (fun c28 => ?_)
          · refine hq_iconst hx hb dX6_check_67 (by decide) (by decide) (fun z29 ez29 => ?_)
            exact hp_iret hx hb hK hN hW hlocks hJ hr ⟨rfl, by omega⟩ dX6_check_68
          · refine lv_aload_n hx hb dX6_check_44 rfl (lv_at hl 1 rfl) ?_
            refine hp_getr (C := RX6) (T := TX6) (N := 12) (ci := 6) (kd := 1) hx hb hts iX6_check_X6 hown hK hJ k0 rfl rfl 4 (by decide) (hts (.fieldLink RX6 29 "NeighborBook" "known" "LNeighborBook$Neighbors;") (List.mem_of_getElem? (i := 1) rfl)) (fun _ h9 => h9) rfl dX6_check_45 (fun b30 kb30 => ?_)
            refine lv_iload_n hx hb dX6_check_48 rfl (lv_at hl 0 rfl) ?_
            refine lv_aload_n hx hb dX6_check_49 rfl (lv_at hl 1 rfl) ?_
            refine hp_getr (C := RX6) (T := TX6) (N := 12) (ci := 6) (kd := 1) hx hb hts iX6_check_X6 hown hK hJ k0 rfl rfl 4 (by decide) (hts (.fieldLink RX6 29 "NeighborBook" "known" "LNeighborBook$Neighbors;") (List.mem_of_getElem? (i := 1) rfl)) (fun _ h9 => h9) rfl dX6_check_50 (fun b31 kb31 => ?_)
            refine lv_iload_n hx hb dX6_check_53 rfl (lv_at hl 2 rfl) ?_
            refine hp_callr (va_runV (As := [.int v2]) (rest := [.int x17, .ref b30]) ⟨hx, hb, hml, hown, hts⟩ (c_X3_at l dC dI dA κ B g b31 kb31 v2 (by omega) (by omega)) (cwV 1 hts gX6_check_X3_at rfl rfl rfl (by decide +kernel) ⟨Nat.le_of_ble_eq_true rfl, Nat.le_of_ble_eq_true rfl⟩) (hp_preV (q := (RX3, TX3, 2)) [.int v2] hK hN hW hJ kb31 rfl rfl) rfl rfl hl.1 rfl (lv_room (Nat.le_of_ble_eq_true rfl)) dX6_check_54 ⟨Nat.zero_le _, Nat.zero_le _⟩) hJ (fun b33 g32 H locs kb33 hp hJ => ?_)
            subst hp
            refine hp_callr (va_runV (As := []) (rest := [.int x17, .ref b30]) ⟨hx, hb, hml, hown, hts⟩ (c_X2_contents l dC dI dA κ B g b33 kb33) (cwV 0 hts gX6_check_X2_contents rfl rfl rfl (by decide +kernel) ⟨Nat.le_of_ble_eq_true rfl, Nat.le_of_ble_eq_true rfl⟩) (hp_preV (q := (RX2, TX2, 4)) [] hK hN hW hJ kb33 rfl rfl) rfl rfl hl.1 rfl (lv_room (Nat.le_of_ble_eq_true rfl)) dX6_check_57 ⟨Nat.zero_le _, Nat.zero_le _⟩) hJ (fun b35 g34 H locs kb35 hp hJ => ?_)
            subst hp
            refine hp_calli (va_runV (As := [.int x17, .ref b35]) (rest := []) ⟨hx, hb, hml, hown, hts⟩ (c_X3_find l dC dI dA κ B g b30 kb30 x17 b35 kb35 hG) (cwV 2 hts gX6_check_X3_find rfl rfl rfl (by decide +kernel) ⟨Nat.le_of_ble_eq_true rfl, Nat.le_of_ble_eq_true rfl⟩) (hp_preV (q := (RX3, TX3, 2)) [.int x17, .ref b35] hK hN hW hJ kb30 rfl rfl) rfl rfl hl.1 rfl (lv_room (Nat.le_of_ble_eq_true rfl)) dX6_check_60 ⟨Nat.zero_le _, Nat.zero_le _⟩) hJ (fun x37 g36 H locs hp hJ => ?_)
            obtain ⟨rfl, f38⟩ := hp
            refine lv_iload_n hx hb dX6_check_63 rfl (lv_at hl 2 rfl) ?_
            refine hq_icmp_eq (tgt := 69) hx hb dX6_check_64 (by decide) (fun c39 => ?_) (fun c39 => ?_)
            · refine hq_iinc (k := 2) (lv' := fun (z9 : Int32) => [(1, .int z9), (2, .int x17), (0, .ref h0)]) hx hb dX6_check_69 hl rfl (by decide) (by decide) (by omega) (by omega) (by decide) (fun _ => rfl) (fun x40 ls ex40 hl => ?_)
              have hl : lv_has ls 3 [(1, .int x40), (2, .int x17), (0, .ref h0)] := hl
              refine lv_goto (tgt := 2) hx hb dX6_check_72 (by decide) ?_
              exact ihlp3 x40 _ _ ls (by omega) (by omega) (by omega) hJ (lv_sub hl [2, 0] rfl)
            · refine hq_iconst hx hb dX6_check_67 (by decide) (by decide) (fun z41 ez41 => ?_)
              exact hp_iret hx hb hK hN hW hlocks hJ hr ⟨rfl, by omega⟩ dX6_check_68
  exact lp3 ((13 - z1.toInt).toNat + 1) z1 _ _ ls (by omega) (by omega) (by omega) hJ (lv_sub hl [1, 0] rfl)
end
section
theorem iX6_hear_X6 : ∀ w ∈ wsX60, w ∈ wsX6_hear := fun _ h => List.mem_cons_of_mem _ (List.mem_append_left _ (List.mem_append_left _ (List.mem_append_left _ (List.mem_append_left _ (List.mem_append_left _ (List.mem_append_right _ h))))))
theorem iX6_hear_X4 : ∀ w ∈ wsX40, w ∈ wsX6_hear := fun _ h => List.mem_cons_of_mem _ (List.mem_append_left _ (List.mem_append_left _ (List.mem_append_left _ (List.mem_append_left _ (List.mem_append_right _ h)))))
theorem iX6_hear_X1 : ∀ w ∈ wsX10, w ∈ wsX6_hear := fun _ h => List.mem_cons_of_mem _ (List.mem_append_left _ (List.mem_append_left _ (List.mem_append_left _ (List.mem_append_right _ h))))
theorem iX6_hear_X0 : ∀ w ∈ wsX00, w ∈ wsX6_hear := fun _ h => List.mem_cons_of_mem _ (List.mem_append_left _ (List.mem_append_left _ (List.mem_append_right _ h)))
theorem iX6_hear_X3 : ∀ w ∈ wsX30, w ∈ wsX6_hear := fun _ h => List.mem_cons_of_mem _ (List.mem_append_left _ (List.mem_append_right _ h))
theorem iX6_hear_X2 : ∀ w ∈ wsX20, w ∈ wsX6_hear := fun _ h => List.mem_cons_of_mem _ (List.mem_append_right _ h)
set_option maxRecDepth 100000 in
set_option maxHeartbeats 4000000 in
theorem c_X6_hear (l : Launch) (dC : Nat → ClassId) (dI : Nat → Nat → Nat) (dA : Nat → ClassId) (κ : Nat → Nat) (B : Nat) (g : Nat → Nat → Int) (h0 : Nat) (k0 : κ h0 = 1) (p1 : Int32) (hG : hg_k g) : Met l yX6_hear wsX6_hear ({ frames := 5, cells := 0, slots := 0, locals := 117 } : Room) (hp_Pre dC dI dA κ B g [Value.ref h0, Value.int p1]) (hp_Qi dC dI dA κ B (fun r u => hg_P hx_d g u ∧ hg_k u ∧ (((0 ≤ p1.toInt ∧ p1.toInt < 4 ∧ g (5 + p1.toInt.toNat) 0 = 1) ∧ u 1 1 = 0) ∨ (¬ (0 ≤ p1.toInt ∧ p1.toInt < 4 ∧ g (5 + p1.toInt.toNat) 0 = 1) ∧ u 1 1 = g 1 1 ∧ r.toInt = -1)))) 0 0 (hp_A B) := by
  refine Met.ofW (cc := cX6_hear) (maxL := 3) (ret := (some .int)) (by decide) rfl ?_
  intro p e s m args below meth c s₁ Bd hml hv
  obtain ⟨rfl, hK, hN, hW, hF⟩ := hv
  have hx := Bd.exec
  have hb := Bd.bytes
  have hr := Bd.returns
  have hts := atoms_spec (ws := wsX6_hear) Bd.pre
  have hown : s.vm.findClass RX6 = some m.cls := findClass_of_methodNamed Bd.named
  have hlocks := Bd.notSynchronized
  have hJ : hp_J dC dI dA κ B g s.heap s.heap [] := ⟨hF, va_S.rf⟩
  have hl := lv_entry ([Value.ref h0, Value.int p1]) (n := 3) (Nat.le_of_ble_eq_true rfl)
  rw [lg_entry_eq]
  generalize (lg_sl ([Value.ref h0, Value.int p1]) ++ List.replicate (3 - (lg_sl ([Value.ref h0, Value.int p1])).length) Slot.unset).toArray = ls at hl ⊢
  have hl : lv_has ls 3 [(0, .ref h0), (1, .int p1)] := hl
  obtain ⟨hG1, hG2, hG3, hG4, hG5, hG6, hG7, hG8⟩ := id hG
  refine lv_iload_n hx hb dX6_hear_0 rfl (lv_at hl 1 rfl) ?_
  refine hp_calli (va_runS (As := [.int p1]) (rest := []) ⟨hx, hb, hml, hown, hts⟩ (c_X6_isPort l dC dI dA κ B g p1) (va_cwS 1 hts gX6_hear_X6_isPort rfl rfl rfl (by decide +kernel) ⟨Nat.le_of_ble_eq_true rfl, Nat.le_of_ble_eq_true rfl⟩) (hp_preS [.int p1] hK hN hW hJ) rfl rfl hl.1 rfl (lv_room (Nat.le_of_ble_eq_true rfl)) dX6_hear_1 ⟨Nat.zero_le _, Nat.zero_le _⟩) hJ (fun x2 g1 H locs hp hJ => ?_)
  obtain ⟨rfl, f3⟩ := hp
  refine hq_if_eq (tgt := 19) hx hb dX6_hear_4 (by decide) (fun c4 => ?_) (fun c4 => ?_)
  · refine hq_iconst hx hb dX6_hear_19 (by decide) (by decide) (fun z5 ez5 => ?_)
    exact hp_iret hx hb hK hN hW hlocks hJ hr ⟨hg_P.rf, hG, by omega⟩ dX6_hear_20
  · refine lv_aload_n hx hb dX6_hear_7 rfl (lv_at hl 0 rfl) ?_
    refine hp_getr (C := RX6) (T := TX6) (N := 12) (ci := 6) (kd := 1) hx hb hts iX6_hear_X6 hown hK hJ k0 rfl rfl 3 (by decide) (hts (.fieldLink RX6 22 "NeighborBook" "ports" "[LNeighborBook$Port;") (List.mem_of_getElem? (i := 1) rfl)) (fun _ h9 => h9) rfl dX6_hear_8 (fun b6 kb6 => ?_)
    refine lv_iload_n hx hb dX6_hear_11 rfl (lv_at hl 1 rfl) ?_
    refine hp_aald3 (kd := 15) (n := 4) hx hb hK hJ kb6 rfl (by omega) (by omega) (hk_s15 (by omega)) dX6_hear_12 (fun b7 kb7 => ?_)
    refine hp_calli (va_runV (As := []) (rest := []) ⟨hx, hb, hml, hown, hts⟩ (c_X4_isUp l dC dI dA κ B g (p1.toInt.toNat) (by omega : p1.toInt.toNat < 4) b7 kb7 hG) (cwV 0 hts gX6_hear_X4_isUp rfl rfl rfl (by decide +kernel) ⟨Nat.le_of_ble_eq_true rfl, Nat.le_of_ble_eq_true rfl⟩) (hp_preV (q := (RX4, TX4, 6)) [] hK hN hW hJ kb7 (hk_t5 (by omega : p1.toInt.toNat < 4)) rfl) rfl rfl hl.1 rfl (lv_room (Nat.le_of_ble_eq_true rfl)) dX6_hear_13 ⟨Nat.zero_le _, Nat.zero_le _⟩) hJ (fun x9 g8 H locs hp hJ => ?_)
    obtain ⟨rfl, f10⟩ := hp
    refine hq_if_ne (tgt := 21) hx hb dX6_hear_16 (by decide) (fun c11 => ?_) (fun c11 => ?_)
    · have hGq := hG7 p1.toInt.toNat (by omega)
      refine lv_aload_n hx hb dX6_hear_21 rfl (lv_at hl 0 rfl) ?_
      refine hp_getr (C := RX6) (T := TX6) (N := 12) (ci := 6) (kd := 1) hx hb hts iX6_hear_X6 hown hK hJ k0 rfl rfl 5 (by decide) (hts (.fieldLink RX6 36 "NeighborBook" "reader" "LNeighborBook$FrameReader;") (List.mem_of_getElem? (i := 2) rfl)) (fun _ h9 => h9) rfl dX6_hear_22 (fun b12 kb12 => ?_)
      refine lv_aload_n hx hb dX6_hear_25 rfl (lv_at hl 0 rfl) ?_
      refine hp_getr (C := RX6) (T := TX6) (N := 12) (ci := 6) (kd := 1) hx hb hts iX6_hear_X6 hown hK hJ k0 rfl rfl 0 (by decide) (hts (.fieldLink RX6 9 "NeighborBook" "typed" "[B") (List.mem_of_getElem? (i := 3) rfl)) (fun _ h9 => h9) rfl dX6_hear_26 (fun b13 kb13 => ?_)
      refine lv_aload_n hx hb dX6_hear_29 rfl (lv_at hl 0 rfl) ?_
      refine hp_geti (C := RX6) (T := TX6) (N := 12) (ci := 6) (kd := 1) hx hb hts iX6_hear_X6 hown hK hJ k0 rfl rfl 1 (by decide) (hts (.fieldLink RX6 65 "NeighborBook" "typedCount" "I") (List.mem_of_getElem? (i := 4) rfl)) (fun _ h9 => h9) rfl rfl dX6_hear_30 (fun x14 ex14 => ?_)
      have ex14 : x14.toInt = g 1 1 := ex14
      refine hp_calli (va_runV (As := [.ref b13, .int x14]) (rest := []) ⟨hx, hb, hml, hown, hts⟩ (c_X1_read l dC dI dA κ B g b12 kb12 b13 kb13 x14 (by omega) (by omega)) (cwV 2 hts gX6_hear_X1_read rfl rfl rfl (by decide +kernel) ⟨Nat.le_of_ble_eq_true rfl, Nat.le_of_ble_eq_true rfl⟩) (hp_preV (q := (RX1, TX1, 2)) [.ref b13, .int x14] hK hN hW hJ kb12 rfl rfl) rfl rfl hl.1 rfl (lv_room (Nat.le_of_ble_eq_true rfl)) dX6_hear_33 ⟨Nat.zero_le _, Nat.zero_le _⟩) hJ (fun x16 g15 H locs hp hJ => ?_)
      subst hp
      refine lv_istore_n (lv' := [(2, .int x16), (0, .ref h0), (1, .int p1)]) hx hb dX6_hear_36 rfl hl (by decide) rfl (fun ls hl => ?_)
      refine lv_aload_n hx hb dX6_hear_37 rfl (lv_at hl 1 rfl) ?_
      refine hq_iconst hx hb dX6_hear_38 (by decide) (by decide) (fun z17 ez17 => ?_)
      refine hp_putx (C := RX6) (T := TX6) (N := 12) (ci := 6) (kd := 1) hx hb hts iX6_hear_X6 hown hK hJ k0 rfl rfl 1 (by decide) (hts (.fieldLink RX6 65 "NeighborBook" "typedCount" "I") (List.mem_of_getElem? (i := 4) rfl)) (fun _ h9 => h9) tyX6 tyX6_ok nmX6 (x := z17) rfl rfl (by decide) hW rfl rfl rfl dX6_hear_39 (fun g18 H locs eg18 ng18 hJ => ?_)
      have eg18 : g18 1 1 = z17.toInt := eg18
      have P19 : hg_P hx_d g g18 := hg_P.put hg_P.rf ng18 rfl
      have tt20 : g18 10 1 = g 10 1 := ng18 10 1 (by decide)
      have tt21 : g18 4 1 = g 4 1 := ng18 4 1 (by decide)
      refine lv_iload_n hx hb dX6_hear_42 rfl (lv_at hl 0 rfl) ?_
      refine hq_if_ne (tgt := 52) hx hb dX6_hear_43 (by decide) (fun c22 => ?_) (fun c22 => ?_)
      · refine lv_aload_n hx hb dX6_hear_52 rfl (lv_at hl 1 rfl) ?_
        refine hp_getr (C := RX6) (T := TX6) (N := 12) (ci := 6) (kd := 1) hx hb hts iX6_hear_X6 hown hK hJ k0 rfl rfl 3 (by decide) (hts (.fieldLink RX6 22 "NeighborBook" "ports" "[LNeighborBook$Port;") (List.mem_of_getElem? (i := 1) rfl)) (fun _ h9 => h9) rfl dX6_hear_53 (fun b23 kb23 => ?_)
        refine lv_iload_n hx hb dX6_hear_56 rfl (lv_at hl 2 rfl) ?_
        refine hp_aald3 (kd := 15) (n := 4) hx hb hK hJ kb23 rfl (by omega) (by omega) (hk_s15 (by omega)) dX6_hear_57 (fun b24 kb24 => ?_)
        refine lv_iload_n hx hb dX6_hear_58 rfl (lv_at hl 0 rfl) ?_
        refine hq_if_ne (tgt := 66) hx hb dX6_hear_59 (by decide) (fun c25 => ?_) (fun c25 => ?_)
        · refine hq_iconst hx hb dX6_hear_66 (by decide) (by decide) (fun z26 ez26 => ?_)
          refine hp_callv (va_runV (As := [.int z26]) (rest := []) ⟨hx, hb, hml, hown, hts⟩ (c_X4_noteHeard l dC dI dA κ B g18 (p1.toInt.toNat) (by omega : p1.toInt.toNat < 4) b24 kb24 z26 (hg_k.ofd hG P19 (by constructor <;> omega) (by constructor <;> omega) (by constructor <;> omega) )) (cwV 1 hts gX6_hear_X4_noteHeard rfl rfl rfl (by decide +kernel) ⟨Nat.le_of_ble_eq_true rfl, Nat.le_of_ble_eq_true rfl⟩) (hp_preV (q := (RX4, TX4, 6)) [.int z26] hK hN hW hJ kb24 (hk_t5 (by omega : p1.toInt.toNat < 4)) rfl) rfl rfl hl.1 rfl (lv_room (Nat.le_of_ble_eq_true rfl)) dX6_hear_67 ⟨Nat.zero_le _, Nat.zero_le _⟩) hJ (fun g27 H locs hp hJ => ?_)
          obtain ⟨P29a, K30⟩ := hp
          obtain ⟨K301, K302, K303, K304, K305, K306, K307, K308⟩ := id K30
          have P29 : hg_P hx_d g g27 := hg_P.tr P19 (P29a.le hx_cd)
          have qt31 : g27 1 1 = g18 1 1 := P29a 1 1 rfl
          have qt32 : g27 11 1 = g18 11 1 := P29a 11 1 rfl
          have qt33 : g27 11 13 = g18 11 13 := P29a 11 13 rfl
          have qt34 : g27 11 22 = g18 11 22 := P29a 11 22 rfl
          refine lv_aload_n hx hb dX6_hear_70 rfl (lv_at hl 1 rfl) ?_
          refine lv_iload_n hx hb dX6_hear_71 rfl (lv_at hl 0 rfl) ?_
          refine hp_putx (C := RX6) (T := TX6) (N := 12) (ci := 6) (kd := 1) hx hb hts iX6_hear_X6 hown hK hJ k0 rfl rfl 11 (by decide) (hts (.fieldLink RX6 112 "NeighborBook" "latestFault" "I") (List.mem_of_getElem? (i := 5) rfl)) (fun _ h9 => h9) tyX6 tyX6_ok nmX6 (x := x16) rfl rfl (by decide) hW rfl rfl rfl dX6_hear_72 (fun g35 H locs eg35 ng35 hJ => ?_)
          have eg35 : g35 1 11 = x16.toInt := eg35
          have P36 : hg_P hx_d g g35 := hg_P.put P29 ng35 rfl
          have tt37 : g35 1 1 = g27 1 1 := ng35 1 1 (by decide)
          have tt38 : g35 10 1 = g27 10 1 := ng35 10 1 (by decide)
          have tt39 : g35 4 1 = g27 4 1 := ng35 4 1 (by decide)
          refine lv_iload_n hx hb dX6_hear_75 rfl (lv_at hl 0 rfl) ?_
          exact hp_iret hx hb hK hN hW hlocks hJ hr ⟨P36, (hg_k.ofd hG P36 (by constructor <;> omega) (by constructor <;> omega) (by constructor <;> omega) ), by omega⟩ dX6_hear_76
        · exfalso; omega
      · refine lv_aload_n hx hb dX6_hear_46 rfl (lv_at hl 1 rfl) ?_
        refine lv_iload_n hx hb dX6_hear_47 rfl (lv_at hl 2 rfl) ?_
        refine hp_calli (va_runV (As := [.int p1]) (rest := []) ⟨hx, hb, hml, hown, hts⟩ (c_X6_learn l dC dI dA κ B g18 h0 k0 p1 (hg_k.ofd hG P19 (by constructor <;> omega) (by constructor <;> omega) (by constructor <;> omega) ) (by omega) (by omega)) (cwV 1 hts gX6_hear_X6_learn rfl rfl rfl (by decide +kernel) ⟨Nat.le_of_ble_eq_true rfl, Nat.le_of_ble_eq_true rfl⟩) (hp_preV (q := (RX6, TX6, 12)) [.int p1] hK hN hW hJ k0 rfl rfl) rfl rfl hl.1 rfl (lv_room (Nat.le_of_ble_eq_true rfl)) dX6_hear_48 ⟨Nat.zero_le _, Nat.zero_le _⟩) hJ (fun x41 g40 H locs hp hJ => ?_)
        obtain ⟨P43a, K44⟩ := hp
        obtain ⟨K441, K442, K443, K444, K445, K446, K447, K448⟩ := id K44
        have P43 : hg_P hx_d g g40 := hg_P.tr P19 (P43a.le hx_cd)
        have qt45 : g40 1 1 = g18 1 1 := P43a 1 1 rfl
        have qt46 : g40 11 1 = g18 11 1 := P43a 11 1 rfl
        have qt47 : g40 11 13 = g18 11 13 := P43a 11 13 rfl
        have qt48 : g40 11 22 = g18 11 22 := P43a 11 22 rfl
        refine lv_istore_n (lv' := [(2, .int x41), (0, .ref h0), (1, .int p1)]) hx hb dX6_hear_51 rfl hl (by decide) rfl (fun ls hl => ?_)
        refine lv_aload_n hx hb dX6_hear_52 rfl (lv_at hl 1 rfl) ?_
        refine hp_getr (C := RX6) (T := TX6) (N := 12) (ci := 6) (kd := 1) hx hb hts iX6_hear_X6 hown hK hJ k0 rfl rfl 3 (by decide) (hts (.fieldLink RX6 22 "NeighborBook" "ports" "[LNeighborBook$Port;") (List.mem_of_getElem? (i := 1) rfl)) (fun _ h9 => h9) rfl dX6_hear_53 (fun b49 kb49 => ?_)
        refine lv_iload_n hx hb dX6_hear_56 rfl (lv_at hl 2 rfl) ?_
        refine hp_aald3 (kd := 15) (n := 4) hx hb hK hJ kb49 rfl (by omega) (by omega) (hk_s15 (by omega)) dX6_hear_57 (fun b50 kb50 => ?_)
        refine lv_iload_n hx hb dX6_hear_58 rfl (lv_at hl 0 rfl) ?_
        refine hq_if_ne (tgt := 66) hx hb dX6_hear_59 (by decide) (fun c51 => ?_) (fun c51 => ?_)
        · refine hq_iconst hx hb dX6_hear_66 (by decide) (by decide) (fun z52 ez52 => ?_)
          refine hp_callv (va_runV (As := [.int z52]) (rest := []) ⟨hx, hb, hml, hown, hts⟩ (c_X4_noteHeard l dC dI dA κ B g40 (p1.toInt.toNat) (by omega : p1.toInt.toNat < 4) b50 kb50 z52 K44) (cwV 1 hts gX6_hear_X4_noteHeard rfl rfl rfl (by decide +kernel) ⟨Nat.le_of_ble_eq_true rfl, Nat.le_of_ble_eq_true rfl⟩) (hp_preV (q := (RX4, TX4, 6)) [.int z52] hK hN hW hJ kb50 (hk_t5 (by omega : p1.toInt.toNat < 4)) rfl) rfl rfl hl.1 rfl (lv_room (Nat.le_of_ble_eq_true rfl)) dX6_hear_67 ⟨Nat.zero_le _, Nat.zero_le _⟩) hJ (fun g53 H locs hp hJ => ?_)
          obtain ⟨P55a, K56⟩ := hp
          obtain ⟨K561, K562, K563, K564, K565, K566, K567, K568⟩ := id K56
          have P55 : hg_P hx_d g g53 := hg_P.tr P43 (P55a.le hx_cd)
          have qt57 : g53 1 1 = g40 1 1 := P55a 1 1 rfl
          have qt58 : g53 11 1 = g40 11 1 := P55a 11 1 rfl
          have qt59 : g53 11 13 = g40 11 13 := P55a 11 13 rfl
          have qt60 : g53 11 22 = g40 11 22 := P55a 11 22 rfl
          refine lv_aload_n hx hb dX6_hear_70 rfl (lv_at hl 1 rfl) ?_
          refine lv_iload_n hx hb dX6_hear_71 rfl (lv_at hl 0 rfl) ?_
          refine hp_putx (C := RX6) (T := TX6) (N := 12) (ci := 6) (kd := 1) hx hb hts iX6_hear_X6 hown hK hJ k0 rfl rfl 11 (by decide) (hts (.fieldLink RX6 112 "NeighborBook" "latestFault" "I") (List.mem_of_getElem? (i := 5) rfl)) (fun _ h9 => h9) tyX6 tyX6_ok nmX6 (x := x41) rfl rfl (by decide) hW rfl rfl rfl dX6_hear_72 (fun g61 H locs eg61 ng61 hJ => ?_)
          have eg61 : g61 1 11 = x41.toInt := eg61
          have P62 : hg_P hx_d g g61 := hg_P.put P55 ng61 rfl
          have tt63 : g61 1 1 = g53 1 1 := ng61 1 1 (by decide)
          have tt64 : g61 10 1 = g53 10 1 := ng61 10 1 (by decide)
          have tt65 : g61 4 1 = g53 4 1 := ng61 4 1 (by decide)
          refine lv_iload_n hx hb dX6_hear_75 rfl (lv_at hl 0 rfl) ?_
          exact hp_iret hx hb hK hN hW hlocks hJ hr ⟨P62, (hg_k.ofd hG P62 (by constructor <;> omega) (by constructor <;> omega) (by constructor <;> omega) ), by omega⟩ dX6_hear_76
        · refine hq_iconst hx hb dX6_hear_62 (by decide) (by decide) (fun z66 ez66 => ?_)
          refine lv_goto (tgt := 67) hx hb dX6_hear_63 (by decide) ?_
          refine hp_callv (va_runV (As := [.int z66]) (rest := []) ⟨hx, hb, hml, hown, hts⟩ (c_X4_noteHeard l dC dI dA κ B g40 (p1.toInt.toNat) (by omega : p1.toInt.toNat < 4) b50 kb50 z66 K44) (cwV 1 hts gX6_hear_X4_noteHeard rfl rfl rfl (by decide +kernel) ⟨Nat.le_of_ble_eq_true rfl, Nat.le_of_ble_eq_true rfl⟩) (hp_preV (q := (RX4, TX4, 6)) [.int z66] hK hN hW hJ kb50 (hk_t5 (by omega : p1.toInt.toNat < 4)) rfl) rfl rfl hl.1 rfl (lv_room (Nat.le_of_ble_eq_true rfl)) dX6_hear_67 ⟨Nat.zero_le _, Nat.zero_le _⟩) hJ (fun g67 H locs hp hJ => ?_)
          obtain ⟨P69a, K70⟩ := hp
          obtain ⟨K701, K702, K703, K704, K705, K706, K707, K708⟩ := id K70
          have P69 : hg_P hx_d g g67 := hg_P.tr P43 (P69a.le hx_cd)
          have qt71 : g67 1 1 = g40 1 1 := P69a 1 1 rfl
          have qt72 : g67 11 1 = g40 11 1 := P69a 11 1 rfl
          have qt73 : g67 11 13 = g40 11 13 := P69a 11 13 rfl
          have qt74 : g67 11 22 = g40 11 22 := P69a 11 22 rfl
          refine lv_aload_n hx hb dX6_hear_70 rfl (lv_at hl 1 rfl) ?_
          refine lv_iload_n hx hb dX6_hear_71 rfl (lv_at hl 0 rfl) ?_
          refine hp_putx (C := RX6) (T := TX6) (N := 12) (ci := 6) (kd := 1) hx hb hts iX6_hear_X6 hown hK hJ k0 rfl rfl 11 (by decide) (hts (.fieldLink RX6 112 "NeighborBook" "latestFault" "I") (List.mem_of_getElem? (i := 5) rfl)) (fun _ h9 => h9) tyX6 tyX6_ok nmX6 (x := x41) rfl rfl (by decide) hW rfl rfl rfl dX6_hear_72 (fun g75 H locs eg75 ng75 hJ => ?_)
          have eg75 : g75 1 11 = x41.toInt := eg75
          have P76 : hg_P hx_d g g75 := hg_P.put P69 ng75 rfl
          have tt77 : g75 1 1 = g67 1 1 := ng75 1 1 (by decide)
          have tt78 : g75 10 1 = g67 10 1 := ng75 10 1 (by decide)
          have tt79 : g75 4 1 = g67 4 1 := ng75 4 1 (by decide)
          refine lv_iload_n hx hb dX6_hear_75 rfl (lv_at hl 0 rfl) ?_
          exact hp_iret hx hb hK hN hW hlocks hJ hr ⟨P76, (hg_k.ofd hG P76 (by constructor <;> omega) (by constructor <;> omega) (by constructor <;> omega) ), by omega⟩ dX6_hear_76
    · refine hq_iconst hx hb dX6_hear_19 (by decide) (by decide) (fun z80 ez80 => ?_)
      exact hp_iret hx hb hK hN hW hlocks hJ hr ⟨hg_P.rf, hG, by omega⟩ dX6_hear_20
end
