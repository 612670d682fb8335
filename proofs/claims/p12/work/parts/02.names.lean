/-! ===== BEGIN words of one list among another's, by their places ===== -/
theorem goodIn_r {big : List Cond} (ws : List Cond) (ps : List Nat) (hp : ws = ps.filterMap (fun i => big[i]?)) (h : ws.all goodWord = true) : GoodIn big ws := by
  intro w hw
  have h1 := List.all_eq_true.mp h w hw
  rw [hp] at hw
  obtain ⟨i, -, hi⟩ := List.mem_filterMap.mp hw
  have hm : w ∈ big := by first | exact List.mem_of_getElem? hi | exact List.getElem?_mem hi
  exact ⟨hm, good_of_word h1⟩
theorem goodIn_app {big a b : List Cond} (ha : GoodIn big a) (hb : GoodIn big b) : GoodIn big (a ++ b) := fun w h => (List.mem_append.mp h).elim (ha w) (hb w)
theorem goodIn_ca {big a b : List Cond} {c : Cond} (ha : GoodIn big (c :: a)) (hb : GoodIn big b) : GoodIn big (c :: (a ++ b)) := fun w h => (List.mem_cons.mp h).elim (fun e => ha w (List.mem_cons.mpr (Or.inl e))) (fun h => (List.mem_append.mp h).elim (fun h => ha w (List.mem_cons.mpr (Or.inr h))) (hb w))
theorem goodIn_sub {big ws : List Cond} (hm : ∀ w ∈ ws, w ∈ big) (h : ws.all goodWord = true) : GoodIn big ws := fun w hw => ⟨hm w hw, good_of_word (List.all_eq_true.mp h w hw)⟩
/-! ===== END ===== -/

/-! ===== BEGIN printed: names, fields, word lists, decode rows ===== -/
def RX0 : String := "NeighborBook$Contents"
def TX0 : u_T := fun k => match k with
  | 0 => ("NeighborBook$Contents", "sizes", "[I", true)
  | _ => ("NeighborBook$Contents", "bytes", "[B", true)
def tyX0 : Nat → FieldType := fun k => match k with
  | 0 => .array .int
  | _ => .array .byte
abbrev wsX00 : List Cond := u_ws RX0 TX0 2
theorem nmX0 : ∀ a, a < 2 → ∀ b, b < 2 → a ≠ b → (TX0 a).2.1 ≠ (TX0 b).2.1 := by decide +kernel
theorem tyX0_ok : ∀ k, k < 2 → parseFieldDescriptor (TX0 k).2.2.1 = some (tyX0 k) := by decide +kernel
abbrev cX0_init : ByteArray := prog_2_method_1_code
def yX0_init : MethodName := ⟨RX0, "<init>", "()V"⟩
abbrev cX0_isKept : ByteArray := prog_2_method_2_code
def yX0_isKept : MethodName := ⟨RX0, "isKept", "(I)Z"⟩
abbrev cX0_startOf : ByteArray := prog_2_method_3_code
def yX0_startOf : MethodName := ⟨RX0, "startOf", "(I)I"⟩
abbrev cX0_clear : ByteArray := prog_2_method_4_code
def yX0_clear : MethodName := ⟨RX0, "clear", "()V"⟩
abbrev cX0_keep : ByteArray := prog_2_method_5_code
def yX0_keep : MethodName := ⟨RX0, "keep", "(I[BII)V"⟩
abbrev cX0_drop : ByteArray := prog_2_method_6_code
def yX0_drop : MethodName := ⟨RX0, "drop", "(I)V"⟩
abbrev cX0_has : ByteArray := prog_2_method_7_code
def yX0_has : MethodName := ⟨RX0, "has", "(I)Z"⟩
abbrev cX0_sizeOf : ByteArray := prog_2_method_8_code
def yX0_sizeOf : MethodName := ⟨RX0, "sizeOf", "(I)I"⟩
abbrev cX0_byteAt : ByteArray := prog_2_method_9_code
def yX0_byteAt : MethodName := ⟨RX0, "byteAt", "(II)I"⟩
abbrev cX0_isSame : ByteArray := prog_2_method_10_code
def yX0_isSame : MethodName := ⟨RX0, "isSame", "(I[BII)Z"⟩
abbrev cX0_isSameStation : ByteArray := prog_2_method_11_code
def yX0_isSameStation : MethodName := ⟨RX0, "isSameStation", "(LNeighborBook$Contents;)Z"⟩
abbrev cX0_typeBits : ByteArray := prog_2_method_12_code
def yX0_typeBits : MethodName := ⟨RX0, "typeBits", "()I"⟩
def RX1 : String := "NeighborBook$FrameReader"
def TX1 : u_T := fun k => match k with
  | 0 => ("NeighborBook$FrameReader", "contents", "LNeighborBook$Contents;", false)
  | _ => ("NeighborBook$FrameReader", "held", "I", false)
def tyX1 : Nat → FieldType := fun k => match k with
  | 0 => .object "NeighborBook$Contents"
  | _ => .int
abbrev wsX10 : List Cond := u_ws RX1 TX1 2
theorem nmX1 : ∀ a, a < 2 → ∀ b, b < 2 → a ≠ b → (TX1 a).2.1 ≠ (TX1 b).2.1 := by decide +kernel
theorem tyX1_ok : ∀ k, k < 2 → parseFieldDescriptor (TX1 k).2.2.1 = some (tyX1 k) := by decide +kernel
abbrev cX1_init : ByteArray := prog_3_method_1_code
def yX1_init : MethodName := ⟨RX1, "<init>", "()V"⟩
abbrev cX1_contents : ByteArray := prog_3_method_2_code
def yX1_contents : MethodName := ⟨RX1, "contents", "()LNeighborBook$Contents;"⟩
abbrev cX1_held : ByteArray := prog_3_method_3_code
def yX1_held : MethodName := ⟨RX1, "held", "()I"⟩
abbrev cX1_useNext : ByteArray := prog_3_method_4_code
def yX1_useNext : MethodName := ⟨RX1, "useNext", "(LNeighborBook$Contents;)V"⟩
abbrev cX1_read : ByteArray := prog_3_method_5_code
def yX1_read : MethodName := ⟨RX1, "read", "([BI)I"⟩
abbrev cX1_faultOfPart : ByteArray := prog_3_method_6_code
def yX1_faultOfPart : MethodName := ⟨RX1, "faultOfPart", "(IIII)I"⟩
abbrev cX1_isOutOfOrder : ByteArray := prog_3_method_7_code
def yX1_isOutOfOrder : MethodName := ⟨RX1, "isOutOfOrder", "(II)Z"⟩
abbrev cX1_isWrongSize : ByteArray := prog_3_method_8_code
def yX1_isWrongSize : MethodName := ⟨RX1, "isWrongSize", "(II)Z"⟩
abbrev cX1_takePart : ByteArray := prog_3_method_9_code
def yX1_takePart : MethodName := ⟨RX1, "takePart", "(I[BII)V"⟩
abbrev cX1_pairAt : ByteArray := prog_3_method_10_code
def yX1_pairAt : MethodName := ⟨RX1, "pairAt", "([BI)I"⟩
def RX2 : String := "NeighborBook$Neighbor"
def TX2 : u_T := fun k => match k with
  | 0 => ("NeighborBook$Neighbor", "contents", "LNeighborBook$Contents;", false)
  | 1 => ("NeighborBook$Neighbor", "port", "I", false)
  | 2 => ("NeighborBook$Neighbor", "ticksLeft", "I", false)
  | _ => ("NeighborBook$Neighbor", "frames", "I", false)
def tyX2 : Nat → FieldType := fun k => match k with
  | 0 => .object "NeighborBook$Contents"
  | 1 => .int
  | 2 => .int
  | _ => .int
abbrev wsX20 : List Cond := u_ws RX2 TX2 4
theorem nmX2 : ∀ a, a < 4 → ∀ b, b < 4 → a ≠ b → (TX2 a).2.1 ≠ (TX2 b).2.1 := by decide +kernel
theorem tyX2_ok : ∀ k, k < 4 → parseFieldDescriptor (TX2 k).2.2.1 = some (tyX2 k) := by decide +kernel
abbrev cX2_init : ByteArray := prog_4_method_1_code
def yX2_init : MethodName := ⟨RX2, "<init>", "()V"⟩
abbrev cX2_contents : ByteArray := prog_4_method_2_code
def yX2_contents : MethodName := ⟨RX2, "contents", "()LNeighborBook$Contents;"⟩
abbrev cX2_portOf : ByteArray := prog_4_method_3_code
def yX2_portOf : MethodName := ⟨RX2, "portOf", "()I"⟩
abbrev cX2_begin : ByteArray := prog_4_method_4_code
def yX2_begin : MethodName := ⟨RX2, "begin", "(I)V"⟩
abbrev cX2_renew : ByteArray := prog_4_method_5_code
def yX2_renew : MethodName := ⟨RX2, "renew", "(LNeighborBook$Contents;I)LNeighborBook$Contents;"⟩
abbrev cX2_passTick : ByteArray := prog_4_method_6_code
def yX2_passTick : MethodName := ⟨RX2, "passTick", "()Z"⟩
abbrev cX2_tellAbout : ByteArray := prog_4_method_7_code
def yX2_tellAbout : MethodName := ⟨RX2, "tellAbout", "(I)I"⟩
def RX3 : String := "NeighborBook$Neighbors"
def TX3 : u_T := fun k => match k with
  | 0 => ("NeighborBook$Neighbors", "rows", "[LNeighborBook$Neighbor;", true)
  | _ => ("NeighborBook$Neighbors", "size", "I", false)
def tyX3 : Nat → FieldType := fun k => match k with
  | 0 => .array (.object "NeighborBook$Neighbor")
  | _ => .int
abbrev wsX30 : List Cond := u_ws RX3 TX3 2
theorem nmX3 : ∀ a, a < 2 → ∀ b, b < 2 → a ≠ b → (TX3 a).2.1 ≠ (TX3 b).2.1 := by decide +kernel
theorem tyX3_ok : ∀ k, k < 2 → parseFieldDescriptor (TX3 k).2.2.1 = some (tyX3 k) := by decide +kernel
abbrev cX3_init : ByteArray := prog_5_method_1_code
def yX3_init : MethodName := ⟨RX3, "<init>", "()V"⟩
abbrev cX3_size : ByteArray := prog_5_method_2_code
def yX3_size : MethodName := ⟨RX3, "size", "()I"⟩
abbrev cX3_has : ByteArray := prog_5_method_3_code
def yX3_has : MethodName := ⟨RX3, "has", "(I)Z"⟩
abbrev cX3_at : ByteArray := prog_5_method_4_code
def yX3_at : MethodName := ⟨RX3, "at", "(I)LNeighborBook$Neighbor;"⟩
abbrev cX3_sizeAt : ByteArray := prog_5_method_5_code
def yX3_sizeAt : MethodName := ⟨RX3, "sizeAt", "(I)I"⟩
abbrev cX3_find : ByteArray := prog_5_method_6_code
def yX3_find : MethodName := ⟨RX3, "find", "(ILNeighborBook$Contents;)I"⟩
abbrev cX3_add : ByteArray := prog_5_method_7_code
def yX3_add : MethodName := ⟨RX3, "add", "(I)I"⟩
abbrev cX3_forget : ByteArray := prog_5_method_8_code
def yX3_forget : MethodName := ⟨RX3, "forget", "(I)V"⟩
abbrev cX3_forgetAllAt : ByteArray := prog_5_method_9_code
def yX3_forgetAllAt : MethodName := ⟨RX3, "forgetAllAt", "(I)V"⟩
abbrev cX3_passTick : ByteArray := prog_5_method_10_code
def yX3_passTick : MethodName := ⟨RX3, "passTick", "()V"⟩
def RX4 : String := "NeighborBook$Port"
def TX4 : u_T := fun k => match k with
  | 0 => ("NeighborBook$Port", "up", "Z", false)
  | 1 => ("NeighborBook$Port", "waitLeft", "I", false)
  | 2 => ("NeighborBook$Port", "quickLeft", "I", false)
  | 3 => ("NeighborBook$Port", "framesSent", "I", false)
  | 4 => ("NeighborBook$Port", "heardWell", "I", false)
  | _ => ("NeighborBook$Port", "heardFaulty", "I", false)
def tyX4 : Nat → FieldType := fun k => match k with
  | 0 => .boolean
  | 1 => .int
  | 2 => .int
  | 3 => .int
  | 4 => .int
  | _ => .int
abbrev wsX40 : List Cond := u_ws RX4 TX4 6
theorem nmX4 : ∀ a, a < 6 → ∀ b, b < 6 → a ≠ b → (TX4 a).2.1 ≠ (TX4 b).2.1 := by decide +kernel
theorem tyX4_ok : ∀ k, k < 6 → parseFieldDescriptor (TX4 k).2.2.1 = some (tyX4 k) := by decide +kernel
abbrev cX4_init : ByteArray := prog_6_method_1_code
def yX4_init : MethodName := ⟨RX4, "<init>", "()V"⟩
abbrev cX4_isUp : ByteArray := prog_6_method_2_code
def yX4_isUp : MethodName := ⟨RX4, "isUp", "()Z"⟩
abbrev cX4_goUp : ByteArray := prog_6_method_3_code
def yX4_goUp : MethodName := ⟨RX4, "goUp", "(I)V"⟩
abbrev cX4_goDown : ByteArray := prog_6_method_4_code
def yX4_goDown : MethodName := ⟨RX4, "goDown", "()V"⟩
abbrev cX4_hurry : ByteArray := prog_6_method_5_code
def yX4_hurry : MethodName := ⟨RX4, "hurry", "()V"⟩
abbrev cX4_greet : ByteArray := prog_6_method_6_code
def yX4_greet : MethodName := ⟨RX4, "greet", "(I)V"⟩
abbrev cX4_noteHeard : ByteArray := prog_6_method_7_code
def yX4_noteHeard : MethodName := ⟨RX4, "noteHeard", "(Z)V"⟩
abbrev cX4_passTick : ByteArray := prog_6_method_8_code
def yX4_passTick : MethodName := ⟨RX4, "passTick", "(I)Z"⟩
abbrev cX4_tellAbout : ByteArray := prog_6_method_9_code
def yX4_tellAbout : MethodName := ⟨RX4, "tellAbout", "(I)I"⟩
def RX5 : String := "NeighborBook$SentFrame"
def TX5 : u_T := fun k => match k with
  | 0 => ("NeighborBook$SentFrame", "bytes", "[B", true)
  | 1 => ("NeighborBook$SentFrame", "length", "I", false)
  | _ => ("NeighborBook$SentFrame", "port", "I", false)
def tyX5 : Nat → FieldType := fun k => match k with
  | 0 => .array .byte
  | 1 => .int
  | _ => .int
abbrev wsX50 : List Cond := u_ws RX5 TX5 3
theorem nmX5 : ∀ a, a < 3 → ∀ b, b < 3 → a ≠ b → (TX5 a).2.1 ≠ (TX5 b).2.1 := by decide +kernel
theorem tyX5_ok : ∀ k, k < 3 → parseFieldDescriptor (TX5 k).2.2.1 = some (tyX5 k) := by decide +kernel
abbrev cX5_init : ByteArray := prog_7_method_1_code
def yX5_init : MethodName := ⟨RX5, "<init>", "()V"⟩
abbrev cX5_length : ByteArray := prog_7_method_2_code
def yX5_length : MethodName := ⟨RX5, "length", "()I"⟩
abbrev cX5_portOf : ByteArray := prog_7_method_3_code
def yX5_portOf : MethodName := ⟨RX5, "portOf", "()I"⟩
abbrev cX5_byteAt : ByteArray := prog_7_method_4_code
def yX5_byteAt : MethodName := ⟨RX5, "byteAt", "(I)I"⟩
abbrev cX5_write : ByteArray := prog_7_method_5_code
def yX5_write : MethodName := ⟨RX5, "write", "(ILNeighborBook$Contents;I)V"⟩
abbrev cX5_putHead : ByteArray := prog_7_method_6_code
def yX5_putHead : MethodName := ⟨RX5, "putHead", "(II)V"⟩
abbrev cX5_putContent : ByteArray := prog_7_method_7_code
def yX5_putContent : MethodName := ⟨RX5, "putContent", "(ILNeighborBook$Contents;)V"⟩
abbrev cX5_putByte : ByteArray := prog_7_method_8_code
def yX5_putByte : MethodName := ⟨RX5, "putByte", "(I)V"⟩
def RX6 : String := "NeighborBook"
def TX6 : u_T := fun k => match k with
  | 0 => ("NeighborBook", "typed", "[B", true)
  | 1 => ("NeighborBook", "typedCount", "I", false)
  | 2 => ("NeighborBook", "told", "LNeighborBook$Contents;", true)
  | 3 => ("NeighborBook", "ports", "[LNeighborBook$Port;", true)
  | 4 => ("NeighborBook", "known", "LNeighborBook$Neighbors;", true)
  | 5 => ("NeighborBook", "reader", "LNeighborBook$FrameReader;", true)
  | 6 => ("NeighborBook", "latest", "LNeighborBook$SentFrame;", true)
  | 7 => ("NeighborBook", "interval", "I", false)
  | 8 => ("NeighborBook", "hold", "I", false)
  | 9 => ("NeighborBook", "quick", "I", false)
  | 10 => ("NeighborBook", "ticks", "I", false)
  | _ => ("NeighborBook", "latestFault", "I", false)
def tyX6 : Nat → FieldType := fun k => match k with
  | 0 => .array .byte
  | 1 => .int
  | 2 => .object "NeighborBook$Contents"
  | 3 => .array (.object "NeighborBook$Port")
  | 4 => .object "NeighborBook$Neighbors"
  | 5 => .object "NeighborBook$FrameReader"
  | 6 => .object "NeighborBook$SentFrame"
  | 7 => .int
  | 8 => .int
  | 9 => .int
  | 10 => .int
  | _ => .int
abbrev wsX60 : List Cond := u_ws RX6 TX6 12
theorem nmX6 : ∀ a, a < 12 → ∀ b, b < 12 → a ≠ b → (TX6 a).2.1 ≠ (TX6 b).2.1 := by decide +kernel
theorem tyX6_ok : ∀ k, k < 12 → parseFieldDescriptor (TX6 k).2.2.1 = some (tyX6 k) := by decide +kernel
abbrev cX6_init : ByteArray := prog_1_method_1_code
def yX6_init : MethodName := ⟨RX6, "<init>", "()V"⟩
abbrev cX6_type : ByteArray := prog_1_method_2_code
def yX6_type : MethodName := ⟨RX6, "type", "(JI)I"⟩
abbrev cX6_tell : ByteArray := prog_1_method_3_code
def yX6_tell : MethodName := ⟨RX6, "tell", "(I)I"⟩
abbrev cX6_set : ByteArray := prog_1_method_4_code
def yX6_set : MethodName := ⟨RX6, "set", "(II)I"⟩
abbrev cX6_port : ByteArray := prog_1_method_5_code
def yX6_port : MethodName := ⟨RX6, "port", "(II)I"⟩
abbrev cX6_hear : ByteArray := prog_1_method_6_code
def yX6_hear : MethodName := ⟨RX6, "hear", "(I)I"⟩
abbrev cX6_tick : ByteArray := prog_1_method_7_code
def yX6_tick : MethodName := ⟨RX6, "tick", "(I)I"⟩
abbrev cX6_about : ByteArray := prog_1_method_8_code
def yX6_about : MethodName := ⟨RX6, "about", "(II)I"⟩
abbrev cX6_count : ByteArray := prog_1_method_9_code
def yX6_count : MethodName := ⟨RX6, "count", "(I)I"⟩
abbrev cX6_sent : ByteArray := prog_1_method_10_code
def yX6_sent : MethodName := ⟨RX6, "sent", "(I)I"⟩
abbrev cX6_neighbor : ByteArray := prog_1_method_11_code
def yX6_neighbor : MethodName := ⟨RX6, "neighbor", "(II)I"⟩
abbrev cX6_content : ByteArray := prog_1_method_12_code
def yX6_content : MethodName := ⟨RX6, "content", "(III)I"⟩
abbrev cX6_check : ByteArray := prog_1_method_13_code
def yX6_check : MethodName := ⟨RX6, "check", "()I"⟩
abbrev cX6_isPort : ByteArray := prog_1_method_14_code
def yX6_isPort : MethodName := ⟨RX6, "isPort", "(I)Z"⟩
abbrev cX6_isTellable : ByteArray := prog_1_method_15_code
def yX6_isTellable : MethodName := ⟨RX6, "isTellable", "(II)Z"⟩
abbrev cX6_isMore : ByteArray := prog_1_method_16_code
def yX6_isMore : MethodName := ⟨RX6, "isMore", "(I)Z"⟩
abbrev cX6_tellNothing : ByteArray := prog_1_method_17_code
def yX6_tellNothing : MethodName := ⟨RX6, "tellNothing", "(I)V"⟩
abbrev cX6_tellTyped : ByteArray := prog_1_method_18_code
def yX6_tellTyped : MethodName := ⟨RX6, "tellTyped", "(I)V"⟩
abbrev cX6_hurryAll : ByteArray := prog_1_method_19_code
def yX6_hurryAll : MethodName := ⟨RX6, "hurryAll", "()V"⟩
abbrev cX6_learn : ByteArray := prog_1_method_20_code
def yX6_learn : MethodName := ⟨RX6, "learn", "(I)I"⟩
def RX7 : String := "NeighborBookModel"
def TX7 : u_T := fun k => match k with
  | 0 => ("NeighborBookModel", "typed", "[B", true)
  | 1 => ("NeighborBookModel", "typedSize", "I", false)
  | 2 => ("NeighborBookModel", "own", "[B", true)
  | 3 => ("NeighborBookModel", "ownSizes", "[I", true)
  | 4 => ("NeighborBookModel", "interval", "I", false)
  | 5 => ("NeighborBookModel", "hold", "I", false)
  | 6 => ("NeighborBookModel", "quick", "I", false)
  | 7 => ("NeighborBookModel", "up", "[Z", true)
  | 8 => ("NeighborBookModel", "sentFrames", "[I", true)
  | 9 => ("NeighborBookModel", "good", "[I", true)
  | 10 => ("NeighborBookModel", "bad", "[I", true)
  | 11 => ("NeighborBookModel", "waits", "[I", true)
  | 12 => ("NeighborBookModel", "quicks", "[I", true)
  | 13 => ("NeighborBookModel", "known", "I", false)
  | 14 => ("NeighborBookModel", "ports", "[I", true)
  | 15 => ("NeighborBookModel", "left", "[I", true)
  | 16 => ("NeighborBookModel", "frames", "[I", true)
  | 17 => ("NeighborBookModel", "bytes", "[B", true)
  | 18 => ("NeighborBookModel", "sizes", "[I", true)
  | 19 => ("NeighborBookModel", "ticks", "I", false)
  | 20 => ("NeighborBookModel", "fault", "I", false)
  | 21 => ("NeighborBookModel", "page", "[B", true)
  | 22 => ("NeighborBookModel", "pageSize", "I", false)
  | _ => ("NeighborBookModel", "pagePort", "I", false)
def tyX7 : Nat → FieldType := fun k => match k with
  | 0 => .array .byte
  | 1 => .int
  | 2 => .array .byte
  | 3 => .array .int
  | 4 => .int
  | 5 => .int
  | 6 => .int
  | 7 => .array .boolean
  | 8 => .array .int
  | 9 => .array .int
  | 10 => .array .int
  | 11 => .array .int
  | 12 => .array .int
  | 13 => .int
  | 14 => .array .int
  | 15 => .array .int
  | 16 => .array .int
  | 17 => .array .byte
  | 18 => .array .int
  | 19 => .int
  | 20 => .int
  | 21 => .array .byte
  | 22 => .int
  | _ => .int
abbrev wsX70 : List Cond := u_ws RX7 TX7 24
theorem nmX7 : ∀ a, a < 24 → ∀ b, b < 24 → a ≠ b → (TX7 a).2.1 ≠ (TX7 b).2.1 := by decide +kernel
theorem tyX7_ok : ∀ k, k < 24 → parseFieldDescriptor (TX7 k).2.2.1 = some (tyX7 k) := by decide +kernel
abbrev cX7_init : ByteArray := prog_9_method_1_code
def yX7_init : MethodName := ⟨RX7, "<init>", "()V"⟩
abbrev cX7_isMore : ByteArray := prog_9_method_2_code
def yX7_isMore : MethodName := ⟨RX7, "isMore", "(I)Z"⟩
abbrev cX7_type : ByteArray := prog_9_method_3_code
def yX7_type : MethodName := ⟨RX7, "type", "(JI)I"⟩
abbrev cX7_tell : ByteArray := prog_9_method_4_code
def yX7_tell : MethodName := ⟨RX7, "tell", "(I)I"⟩
abbrev cX7_set : ByteArray := prog_9_method_5_code
def yX7_set : MethodName := ⟨RX7, "set", "(II)I"⟩
abbrev cX7_put : ByteArray := prog_9_method_6_code
def yX7_put : MethodName := ⟨RX7, "put", "(I)V"⟩
abbrev cX7_head : ByteArray := prog_9_method_7_code
def yX7_head : MethodName := ⟨RX7, "head", "(II)V"⟩
abbrev cX7_send : ByteArray := prog_9_method_8_code
def yX7_send : MethodName := ⟨RX7, "send", "(II)V"⟩
abbrev cX7_port : ByteArray := prog_9_method_9_code
def yX7_port : MethodName := ⟨RX7, "port", "(II)I"⟩
abbrev cX7_move : ByteArray := prog_9_method_10_code
def yX7_move : MethodName := ⟨RX7, "move", "(II)V"⟩
abbrev cX7_forget : ByteArray := prog_9_method_11_code
def yX7_forget : MethodName := ⟨RX7, "forget", "(I)V"⟩
abbrev cX7_isAlike : ByteArray := prog_9_method_12_code
def yX7_isAlike : MethodName := ⟨RX7, "isAlike", "(II)Z"⟩
abbrev cX7_parse : ByteArray := prog_9_method_13_code
def yX7_parse : MethodName := ⟨RX7, "parse", "()I"⟩
abbrev cX7_heard : ByteArray := prog_9_method_14_code
def yX7_heard : MethodName := ⟨RX7, "heard", "(I)I"⟩
abbrev cX7_hear : ByteArray := prog_9_method_15_code
def yX7_hear : MethodName := ⟨RX7, "hear", "(I)I"⟩
abbrev cX7_tick : ByteArray := prog_9_method_16_code
def yX7_tick : MethodName := ⟨RX7, "tick", "(I)I"⟩
abbrev cX7_about : ByteArray := prog_9_method_17_code
def yX7_about : MethodName := ⟨RX7, "about", "(II)I"⟩
abbrev cX7_count : ByteArray := prog_9_method_18_code
def yX7_count : MethodName := ⟨RX7, "count", "(I)I"⟩
abbrev cX7_sent : ByteArray := prog_9_method_19_code
def yX7_sent : MethodName := ⟨RX7, "sent", "(I)I"⟩
abbrev cX7_neighbor : ByteArray := prog_9_method_20_code
def yX7_neighbor : MethodName := ⟨RX7, "neighbor", "(II)I"⟩
abbrev cX7_content : ByteArray := prog_9_method_21_code
def yX7_content : MethodName := ⟨RX7, "content", "(III)I"⟩
abbrev cX7_check : ByteArray := prog_9_method_22_code
def yX7_check : MethodName := ⟨RX7, "check", "()I"⟩
def RJ9 : String := "java/lang/Math"
def TJ9 : u_T := fun k => match k with
  | _ => ("", "", "", false)
def tyJ9 : Nat → FieldType := fun k => match k with
  | _ => .int
abbrev wsJ90 : List Cond := u_ws RJ9 TJ9 0
theorem nmJ9 : ∀ a, a < 0 → ∀ b, b < 0 → a ≠ b → (TJ9 a).2.1 ≠ (TJ9 b).2.1 := by decide +kernel
theorem tyJ9_ok : ∀ k, k < 0 → parseFieldDescriptor (TJ9 k).2.2.1 = some (tyJ9 k) := by decide +kernel
abbrev cJ9_max_7cf53 : ByteArray := prog_10_method_65_code
def yJ9_max_7cf53 : MethodName := ⟨RJ9, "max", "(II)I"⟩
abbrev cJ9_min_7cf53 : ByteArray := prog_10_method_69_code
def yJ9_min_7cf53 : MethodName := ⟨RJ9, "min", "(II)I"⟩
def RJ10 : String := "java/lang/System"
def TJ10 : u_T := fun k => match k with
  | _ => ("", "", "", false)
def tyJ10 : Nat → FieldType := fun k => match k with
  | _ => .int
abbrev wsJ100 : List Cond := u_ws RJ10 TJ10 0
theorem nmJ10 : ∀ a, a < 0 → ∀ b, b < 0 → a ≠ b → (TJ10 a).2.1 ≠ (TJ10 b).2.1 := by decide +kernel
theorem tyJ10_ok : ∀ k, k < 0 → parseFieldDescriptor (TJ10 k).2.2.1 = some (tyJ10 k) := by decide +kernel
def RJ7 : String := "java/util/Arrays"
def TJ7 : u_T := fun k => match k with
  | _ => ("", "", "", false)
def tyJ7 : Nat → FieldType := fun k => match k with
  | _ => .int
abbrev wsJ70 : List Cond := u_ws RJ7 TJ7 0
theorem nmJ7 : ∀ a, a < 0 → ∀ b, b < 0 → a ≠ b → (TJ7 a).2.1 ≠ (TJ7 b).2.1 := by decide +kernel
theorem tyJ7_ok : ∀ k, k < 0 → parseFieldDescriptor (TJ7 k).2.2.1 = some (tyJ7 k) := by decide +kernel
abbrev cJ7_fill_53178 : ByteArray := prog_12_method_103_code
def yJ7_fill_53178 : MethodName := ⟨RJ7, "fill", "([II)V"⟩
def RL : String := "NeighborBookLaw"
abbrev cL_law : ByteArray := code
def yL_law : MethodName := ⟨RL, "law", "([I)Z"⟩
def wsJ7_fill_53178 : List Cond := .code yJ7_fill_53178 cJ7_fill_53178 4 none :: ([])
def wsX0_clear : List Cond := .code yX0_clear cX0_clear 1 none :: ([.fieldLink RX0 9 "NeighborBook$Contents" "sizes" "[I", .methodLink RX0 26 yJ7_fill_53178, .static yJ7_fill_53178, .initialized RJ7, .code yJ7_fill_53178 cJ7_fill_53178 4 none] ++ wsX00)
def wsX0_init : List Cond := .code yX0_init cX0_init 1 none :: ([.methodLink RX0 3 objectInit, .instanceMethod objectInit, .code objectInit ⟨#[0xb1]⟩ 1 none, .arrayClass .int, .fieldLink RX0 9 "NeighborBook$Contents" "sizes" "[I", .arrayClass .byte, .fieldLink RX0 15 "NeighborBook$Contents" "bytes" "[B", .methodLink RX0 19 yX0_clear, .instanceMethod yX0_clear, .selects RX0 yX0_clear yX0_clear, .initialized RX0, .code yX0_clear cX0_clear 1 none, .methodLink RX0 26 yJ7_fill_53178, .static yJ7_fill_53178, .initialized RJ7, .code yJ7_fill_53178 cJ7_fill_53178 4 none] ++ wsX00)
def wsX6_isMore : List Cond := .code yX6_isMore cX6_isMore 1 (some .boolean) :: ([])
def wsX0_isKept : List Cond := .code yX0_isKept cX0_isKept 1 (some .boolean) :: ([.static yX6_isMore, .initialized RX6, .code yX6_isMore cX6_isMore 1 (some .boolean)])
def wsX0_startOf : List Cond := .code yX0_startOf cX0_startOf 1 (some .int) :: ([])
def wsX0_keep : List Cond := .code yX0_keep cX0_keep 5 none :: ([.fieldLink RX0 15 "NeighborBook$Contents" "bytes" "[B", .methodLink RX0 39 arraycopyName, .native arraycopyName, .static arraycopyName, .initialized "java/lang/System", .fieldLink RX0 9 "NeighborBook$Contents" "sizes" "[I", .methodLink RX0 32 yX0_isKept, .static yX0_isKept, .initialized RX0, .code yX0_isKept cX0_isKept 1 (some .boolean), .static yX6_isMore, .initialized RX6, .code yX6_isMore cX6_isMore 1 (some .boolean), .methodLink RX0 35 yX0_startOf, .static yX0_startOf, .code yX0_startOf cX0_startOf 1 (some .int)] ++ wsX00)
def wsX0_sizeOf : List Cond := .code yX0_sizeOf cX0_sizeOf 2 (some .int) :: ([.fieldLink RX0 9 "NeighborBook$Contents" "sizes" "[I"] ++ wsX00)
def wsX0_has : List Cond := .code yX0_has cX0_has 2 (some .boolean) :: ([.methodLink RX0 48 yX0_sizeOf, .instanceMethod yX0_sizeOf, .selects RX0 yX0_sizeOf yX0_sizeOf, .initialized RX0, .code yX0_sizeOf cX0_sizeOf 2 (some .int), .fieldLink RX0 9 "NeighborBook$Contents" "sizes" "[I"] ++ wsX00)
def wsX0_drop : List Cond := .code yX0_drop cX0_drop 2 none :: ([.fieldLink RX0 9 "NeighborBook$Contents" "sizes" "[I", .methodLink RX0 45 yX0_has, .instanceMethod yX0_has, .selects RX0 yX0_has yX0_has, .initialized RX0, .code yX0_has cX0_has 2 (some .boolean), .methodLink RX0 48 yX0_sizeOf, .instanceMethod yX0_sizeOf, .selects RX0 yX0_sizeOf yX0_sizeOf, .code yX0_sizeOf cX0_sizeOf 2 (some .int)] ++ wsX00)
def wsX0_byteAt : List Cond := .code yX0_byteAt cX0_byteAt 3 (some .int) :: ([.fieldLink RX0 15 "NeighborBook$Contents" "bytes" "[B", .methodLink RX0 48 yX0_sizeOf, .instanceMethod yX0_sizeOf, .selects RX0 yX0_sizeOf yX0_sizeOf, .initialized RX0, .code yX0_sizeOf cX0_sizeOf 2 (some .int), .fieldLink RX0 9 "NeighborBook$Contents" "sizes" "[I", .methodLink RX0 35 yX0_startOf, .static yX0_startOf, .code yX0_startOf cX0_startOf 1 (some .int)] ++ wsX00)
def wsX0_isSame : List Cond := .code yX0_isSame cX0_isSame 7 (some .boolean) :: ([.fieldLink RX0 15 "NeighborBook$Contents" "bytes" "[B", .methodLink RX0 48 yX0_sizeOf, .instanceMethod yX0_sizeOf, .selects RX0 yX0_sizeOf yX0_sizeOf, .initialized RX0, .code yX0_sizeOf cX0_sizeOf 2 (some .int), .fieldLink RX0 9 "NeighborBook$Contents" "sizes" "[I", .methodLink RX0 35 yX0_startOf, .static yX0_startOf, .code yX0_startOf cX0_startOf 1 (some .int)] ++ wsX00)
def wsX0_isSameStation : List Cond := .code yX0_isSameStation cX0_isSameStation 2 (some .boolean) :: ([.fieldLink RX0 15 "NeighborBook$Contents" "bytes" "[B", .methodLink RX0 35 yX0_startOf, .static yX0_startOf, .initialized RX0, .code yX0_startOf cX0_startOf 1 (some .int), .methodLink RX0 48 yX0_sizeOf, .instanceMethod yX0_sizeOf, .selects RX0 yX0_sizeOf yX0_sizeOf, .code yX0_sizeOf cX0_sizeOf 2 (some .int), .fieldLink RX0 9 "NeighborBook$Contents" "sizes" "[I", .methodLink RX0 51 yX0_isSame, .instanceMethod yX0_isSame, .selects RX0 yX0_isSame yX0_isSame, .code yX0_isSame cX0_isSame 7 (some .boolean)] ++ wsX00)
def wsX0_typeBits : List Cond := .code yX0_typeBits cX0_typeBits 3 (some .int) :: ([.methodLink RX0 45 yX0_has, .instanceMethod yX0_has, .selects RX0 yX0_has yX0_has, .initialized RX0, .code yX0_has cX0_has 2 (some .boolean), .methodLink RX0 48 yX0_sizeOf, .instanceMethod yX0_sizeOf, .selects RX0 yX0_sizeOf yX0_sizeOf, .code yX0_sizeOf cX0_sizeOf 2 (some .int), .fieldLink RX0 9 "NeighborBook$Contents" "sizes" "[I"] ++ wsX00)
def wsX1_init : List Cond := .code yX1_init cX1_init 1 none :: ([.methodLink RX1 3 objectInit, .instanceMethod objectInit, .code objectInit ⟨#[0xb1]⟩ 1 none, .classLink RX1 9 RX0, .instantiable RX0 2, .initialized RX0, .fieldLink RX1 12 "NeighborBook$FrameReader" "contents" "LNeighborBook$Contents;", .methodLink RX1 11 yX0_init, .instanceMethod yX0_init, .code yX0_init cX0_init 1 none, .methodLink RX0 3 objectInit, .arrayClass .int, .fieldLink RX0 9 "NeighborBook$Contents" "sizes" "[I", .arrayClass .byte, .fieldLink RX0 15 "NeighborBook$Contents" "bytes" "[B", .methodLink RX0 19 yX0_clear, .instanceMethod yX0_clear, .selects RX0 yX0_clear yX0_clear, .code yX0_clear cX0_clear 1 none, .methodLink RX0 26 yJ7_fill_53178, .static yJ7_fill_53178, .initialized RJ7, .code yJ7_fill_53178 cJ7_fill_53178 4 none] ++ wsX00 ++ wsX10)
def wsX1_contents : List Cond := .code yX1_contents cX1_contents 1 (some (.object "NeighborBook$Contents")) :: ([.fieldLink RX1 12 "NeighborBook$FrameReader" "contents" "LNeighborBook$Contents;"] ++ wsX10)
def wsX1_held : List Cond := .code yX1_held cX1_held 1 (some .int) :: ([.fieldLink RX1 18 "NeighborBook$FrameReader" "held" "I"] ++ wsX10)
def wsX1_useNext : List Cond := .code yX1_useNext cX1_useNext 2 none :: ([.fieldLink RX1 12 "NeighborBook$FrameReader" "contents" "LNeighborBook$Contents;"] ++ wsX10)
def wsX1_pairAt : List Cond := .code yX1_pairAt cX1_pairAt 2 (some .int) :: ([])
def wsX1_isOutOfOrder : List Cond := .code yX1_isOutOfOrder cX1_isOutOfOrder 2 (some .boolean) :: ([])
def wsX1_isWrongSize : List Cond := .code yX1_isWrongSize cX1_isWrongSize 2 (some .boolean) :: ([.static yX6_isMore, .initialized RX6, .code yX6_isMore cX6_isMore 1 (some .boolean)])
def wsX1_faultOfPart : List Cond := .code yX1_faultOfPart cX1_faultOfPart 5 (some .int) :: ([.fieldLink RX1 12 "NeighborBook$FrameReader" "contents" "LNeighborBook$Contents;", .methodLink RX1 37 yX1_isOutOfOrder, .static yX1_isOutOfOrder, .initialized RX1, .code yX1_isOutOfOrder cX1_isOutOfOrder 2 (some .boolean), .methodLink RX1 41 yX1_isWrongSize, .static yX1_isWrongSize, .code yX1_isWrongSize cX1_isWrongSize 2 (some .boolean), .static yX6_isMore, .initialized RX6, .code yX6_isMore cX6_isMore 1 (some .boolean), .methodLink RX1 48 yX0_has, .instanceMethod yX0_has, .selects RX0 yX0_has yX0_has, .initialized RX0, .code yX0_has cX0_has 2 (some .boolean), .methodLink RX0 48 yX0_sizeOf, .instanceMethod yX0_sizeOf, .selects RX0 yX0_sizeOf yX0_sizeOf, .code yX0_sizeOf cX0_sizeOf 2 (some .int), .fieldLink RX0 9 "NeighborBook$Contents" "sizes" "[I"] ++ wsX10 ++ wsX00)
def wsX1_takePart_r1 : List Cond := [Cond.fieldLink RX1 18 "NeighborBook$FrameReader" "held" "I", Cond.fieldLink RX1 12 "NeighborBook$FrameReader" "contents" "LNeighborBook$Contents;", Cond.methodLink RX1 25 yX1_pairAt, Cond.static yX1_pairAt, Cond.initialized RX1, Cond.code yX1_pairAt cX1_pairAt 2 (some .int), Cond.methodLink RX1 51 yX0_keep, Cond.instanceMethod yX0_keep, Cond.selects RX0 yX0_keep yX0_keep, Cond.initialized RX0, Cond.code yX0_keep cX0_keep 5 none, Cond.fieldLink RX0 15 "NeighborBook$Contents" "bytes" "[B", Cond.methodLink RX0 39 arraycopyName, Cond.native arraycopyName, Cond.static arraycopyName, Cond.initialized "java/lang/System", Cond.fieldLink RX0 9 "NeighborBook$Contents" "sizes" "[I", Cond.methodLink RX0 32 yX0_isKept, Cond.static yX0_isKept, Cond.code yX0_isKept cX0_isKept 1 (some .boolean), Cond.static yX6_isMore, Cond.initialized RX6, Cond.code yX6_isMore cX6_isMore 1 (some .boolean), Cond.methodLink RX0 35 yX0_startOf]
def wsX1_takePart_r2 : List Cond := [Cond.static yX0_startOf, Cond.code yX0_startOf cX0_startOf 1 (some .int)]
def wsX1_takePart : List Cond := .code yX1_takePart cX1_takePart 5 none :: ((wsX1_takePart_r1 ++ wsX1_takePart_r2) ++ wsX10 ++ wsX00)
def wsX1_read_r1 : List Cond := [Cond.fieldLink RX1 12 "NeighborBook$FrameReader" "contents" "LNeighborBook$Contents;", Cond.methodLink RX1 22 yX0_clear, Cond.instanceMethod yX0_clear, Cond.selects RX0 yX0_clear yX0_clear, Cond.initialized RX0, Cond.code yX0_clear cX0_clear 1 none, Cond.fieldLink RX0 9 "NeighborBook$Contents" "sizes" "[I", Cond.methodLink RX0 26 yJ7_fill_53178, Cond.static yJ7_fill_53178, Cond.initialized RJ7, Cond.code yJ7_fill_53178 cJ7_fill_53178 4 none, Cond.methodLink RX1 25 yX1_pairAt, Cond.static yX1_pairAt, Cond.initialized RX1, Cond.code yX1_pairAt cX1_pairAt 2 (some .int), Cond.methodLink RX1 29 yX1_faultOfPart, Cond.instanceMethod yX1_faultOfPart, Cond.selects RX1 yX1_faultOfPart yX1_faultOfPart, Cond.code yX1_faultOfPart cX1_faultOfPart 5 (some .int), Cond.methodLink RX1 37 yX1_isOutOfOrder, Cond.static yX1_isOutOfOrder, Cond.code yX1_isOutOfOrder cX1_isOutOfOrder 2 (some .boolean), Cond.methodLink RX1 41 yX1_isWrongSize, Cond.static yX1_isWrongSize]
def wsX1_read_r2 : List Cond := [Cond.code yX1_isWrongSize cX1_isWrongSize 2 (some .boolean), Cond.static yX6_isMore, Cond.initialized RX6, Cond.code yX6_isMore cX6_isMore 1 (some .boolean), Cond.methodLink RX1 48 yX0_has, Cond.instanceMethod yX0_has, Cond.selects RX0 yX0_has yX0_has, Cond.code yX0_has cX0_has 2 (some .boolean), Cond.methodLink RX0 48 yX0_sizeOf, Cond.instanceMethod yX0_sizeOf, Cond.selects RX0 yX0_sizeOf yX0_sizeOf, Cond.code yX0_sizeOf cX0_sizeOf 2 (some .int), Cond.methodLink RX1 33 yX1_takePart, Cond.instanceMethod yX1_takePart, Cond.selects RX1 yX1_takePart yX1_takePart, Cond.code yX1_takePart cX1_takePart 5 none, Cond.fieldLink RX1 18 "NeighborBook$FrameReader" "held" "I", Cond.methodLink RX1 51 yX0_keep, Cond.instanceMethod yX0_keep, Cond.selects RX0 yX0_keep yX0_keep, Cond.code yX0_keep cX0_keep 5 none, Cond.fieldLink RX0 15 "NeighborBook$Contents" "bytes" "[B", Cond.methodLink RX0 39 arraycopyName, Cond.native arraycopyName]
def wsX1_read_r3 : List Cond := [Cond.static arraycopyName, Cond.initialized "java/lang/System", Cond.methodLink RX0 32 yX0_isKept, Cond.static yX0_isKept, Cond.code yX0_isKept cX0_isKept 1 (some .boolean), Cond.methodLink RX0 35 yX0_startOf, Cond.static yX0_startOf, Cond.code yX0_startOf cX0_startOf 1 (some .int)]
def wsX1_read : List Cond := .code yX1_read cX1_read 10 (some .int) :: ((wsX1_read_r1 ++ (wsX1_read_r2 ++ wsX1_read_r3)) ++ wsX10 ++ wsX00)
def wsX2_init : List Cond := .code yX2_init cX2_init 1 none :: ([.methodLink RX2 3 objectInit, .instanceMethod objectInit, .code objectInit ⟨#[0xb1]⟩ 1 none, .classLink RX2 9 RX0, .instantiable RX0 2, .initialized RX0, .fieldLink RX2 12 "NeighborBook$Neighbor" "contents" "LNeighborBook$Contents;", .methodLink RX2 11 yX0_init, .instanceMethod yX0_init, .code yX0_init cX0_init 1 none, .methodLink RX0 3 objectInit, .arrayClass .int, .fieldLink RX0 9 "NeighborBook$Contents" "sizes" "[I", .arrayClass .byte, .fieldLink RX0 15 "NeighborBook$Contents" "bytes" "[B", .methodLink RX0 19 yX0_clear, .instanceMethod yX0_clear, .selects RX0 yX0_clear yX0_clear, .code yX0_clear cX0_clear 1 none, .methodLink RX0 26 yJ7_fill_53178, .static yJ7_fill_53178, .initialized RJ7, .code yJ7_fill_53178 cJ7_fill_53178 4 none] ++ wsX00 ++ wsX20)
def wsX2_contents : List Cond := .code yX2_contents cX2_contents 1 (some (.object "NeighborBook$Contents")) :: ([.fieldLink RX2 12 "NeighborBook$Neighbor" "contents" "LNeighborBook$Contents;"] ++ wsX20)
def wsX2_portOf : List Cond := .code yX2_portOf cX2_portOf 1 (some .int) :: ([.fieldLink RX2 18 "NeighborBook$Neighbor" "port" "I"] ++ wsX20)
def wsX2_begin : List Cond := .code yX2_begin cX2_begin 2 none :: ([.fieldLink RX2 18 "NeighborBook$Neighbor" "port" "I", .fieldLink RX2 22 "NeighborBook$Neighbor" "frames" "I"] ++ wsX20)
def wsX2_renew : List Cond := .code yX2_renew cX2_renew 4 (some (.object "NeighborBook$Contents")) :: ([.fieldLink RX2 12 "NeighborBook$Neighbor" "contents" "LNeighborBook$Contents;", .fieldLink RX2 25 "NeighborBook$Neighbor" "ticksLeft" "I", .fieldLink RX2 22 "NeighborBook$Neighbor" "frames" "I"] ++ wsX20)
def wsX2_passTick : List Cond := .code yX2_passTick cX2_passTick 1 (some .boolean) :: ([.fieldLink RX2 25 "NeighborBook$Neighbor" "ticksLeft" "I"] ++ wsX20)
def wsX2_tellAbout : List Cond := .code yX2_tellAbout cX2_tellAbout 2 (some .int) :: ([.fieldLink RX2 18 "NeighborBook$Neighbor" "port" "I", .fieldLink RX2 25 "NeighborBook$Neighbor" "ticksLeft" "I", .fieldLink RX2 22 "NeighborBook$Neighbor" "frames" "I", .fieldLink RX2 12 "NeighborBook$Neighbor" "contents" "LNeighborBook$Contents;", .methodLink RX2 28 yX0_typeBits, .instanceMethod yX0_typeBits, .selects RX0 yX0_typeBits yX0_typeBits, .initialized RX0, .code yX0_typeBits cX0_typeBits 3 (some .int), .methodLink RX0 45 yX0_has, .instanceMethod yX0_has, .selects RX0 yX0_has yX0_has, .code yX0_has cX0_has 2 (some .boolean), .methodLink RX0 48 yX0_sizeOf, .instanceMethod yX0_sizeOf, .selects RX0 yX0_sizeOf yX0_sizeOf, .code yX0_sizeOf cX0_sizeOf 2 (some .int), .fieldLink RX0 9 "NeighborBook$Contents" "sizes" "[I"] ++ wsX20 ++ wsX00)
def wsX3_init_r1 : List Cond := [Cond.methodLink RX3 3 objectInit, Cond.instanceMethod objectInit, Cond.code objectInit ⟨#[0xb1]⟩ 1 none, Cond.classLink RX3 9 RX2, Cond.fieldLink RX3 11 "NeighborBook$Neighbors" "rows" "[LNeighborBook$Neighbor;", Cond.instantiable RX2 4, Cond.initialized RX2, Cond.instanceMethod yX2_init, Cond.code yX2_init cX2_init 1 none, Cond.methodLink RX2 3 objectInit, Cond.classLink RX2 9 RX0, Cond.instantiable RX0 2, Cond.initialized RX0, Cond.fieldLink RX2 12 "NeighborBook$Neighbor" "contents" "LNeighborBook$Contents;", Cond.methodLink RX2 11 yX0_init, Cond.instanceMethod yX0_init, Cond.code yX0_init cX0_init 1 none, Cond.methodLink RX0 3 objectInit, Cond.arrayClass .int, Cond.fieldLink RX0 9 "NeighborBook$Contents" "sizes" "[I", Cond.arrayClass .byte, Cond.fieldLink RX0 15 "NeighborBook$Contents" "bytes" "[B", Cond.methodLink RX0 19 yX0_clear, Cond.instanceMethod yX0_clear]
def wsX3_init_r2 : List Cond := [Cond.selects RX0 yX0_clear yX0_clear, Cond.code yX0_clear cX0_clear 1 none, Cond.methodLink RX0 26 yJ7_fill_53178, Cond.static yJ7_fill_53178, Cond.initialized RJ7, Cond.code yJ7_fill_53178 cJ7_fill_53178 4 none]
def wsX3_init : List Cond := .code yX3_init cX3_init 2 none :: ((wsX3_init_r1 ++ wsX3_init_r2) ++ wsX30 ++ wsX20 ++ wsX00)
def wsX3_size : List Cond := .code yX3_size cX3_size 1 (some .int) :: ([.fieldLink RX3 18 "NeighborBook$Neighbors" "size" "I"] ++ wsX30)
def wsX3_has : List Cond := .code yX3_has cX3_has 2 (some .boolean) :: ([.fieldLink RX3 18 "NeighborBook$Neighbors" "size" "I"] ++ wsX30)
def wsX3_at : List Cond := .code yX3_at cX3_at 2 (some (.object "NeighborBook$Neighbor")) :: ([.fieldLink RX3 11 "NeighborBook$Neighbors" "rows" "[LNeighborBook$Neighbor;"] ++ wsX30)
def wsX3_sizeAt : List Cond := .code yX3_sizeAt cX3_sizeAt 4 (some .int) :: ([.fieldLink RX3 18 "NeighborBook$Neighbors" "size" "I", .fieldLink RX3 11 "NeighborBook$Neighbors" "rows" "[LNeighborBook$Neighbor;", .methodLink RX3 22 yX2_portOf, .instanceMethod yX2_portOf, .selects RX2 yX2_portOf yX2_portOf, .initialized RX2, .code yX2_portOf cX2_portOf 1 (some .int), .fieldLink RX2 18 "NeighborBook$Neighbor" "port" "I"] ++ wsX30 ++ wsX20)
def wsX3_find_r1 : List Cond := [Cond.fieldLink RX3 18 "NeighborBook$Neighbors" "size" "I", Cond.fieldLink RX3 11 "NeighborBook$Neighbors" "rows" "[LNeighborBook$Neighbor;", Cond.methodLink RX3 22 yX2_portOf, Cond.instanceMethod yX2_portOf, Cond.selects RX2 yX2_portOf yX2_portOf, Cond.initialized RX2, Cond.code yX2_portOf cX2_portOf 1 (some .int), Cond.fieldLink RX2 18 "NeighborBook$Neighbor" "port" "I", Cond.methodLink RX3 26 yX2_contents, Cond.instanceMethod yX2_contents, Cond.selects RX2 yX2_contents yX2_contents, Cond.code yX2_contents cX2_contents 1 (some (.object "NeighborBook$Contents")), Cond.fieldLink RX2 12 "NeighborBook$Neighbor" "contents" "LNeighborBook$Contents;", Cond.methodLink RX3 30 yX0_isSameStation, Cond.instanceMethod yX0_isSameStation, Cond.selects RX0 yX0_isSameStation yX0_isSameStation, Cond.initialized RX0, Cond.code yX0_isSameStation cX0_isSameStation 2 (some .boolean), Cond.fieldLink RX0 15 "NeighborBook$Contents" "bytes" "[B", Cond.methodLink RX0 35 yX0_startOf, Cond.static yX0_startOf, Cond.code yX0_startOf cX0_startOf 1 (some .int), Cond.methodLink RX0 48 yX0_sizeOf, Cond.instanceMethod yX0_sizeOf]
def wsX3_find_r2 : List Cond := [Cond.selects RX0 yX0_sizeOf yX0_sizeOf, Cond.code yX0_sizeOf cX0_sizeOf 2 (some .int), Cond.fieldLink RX0 9 "NeighborBook$Contents" "sizes" "[I", Cond.methodLink RX0 51 yX0_isSame, Cond.instanceMethod yX0_isSame, Cond.selects RX0 yX0_isSame yX0_isSame, Cond.code yX0_isSame cX0_isSame 7 (some .boolean)]
def wsX3_find : List Cond := .code yX3_find cX3_find 4 (some .int) :: ((wsX3_find_r1 ++ wsX3_find_r2) ++ wsX30 ++ wsX20 ++ wsX00)
def wsX3_add : List Cond := .code yX3_add cX3_add 3 (some .int) :: ([.fieldLink RX3 18 "NeighborBook$Neighbors" "size" "I", .fieldLink RX3 11 "NeighborBook$Neighbors" "rows" "[LNeighborBook$Neighbor;", .methodLink RX3 36 yX2_begin, .instanceMethod yX2_begin, .selects RX2 yX2_begin yX2_begin, .initialized RX2, .code yX2_begin cX2_begin 2 none, .fieldLink RX2 18 "NeighborBook$Neighbor" "port" "I", .fieldLink RX2 22 "NeighborBook$Neighbor" "frames" "I"] ++ wsX30 ++ wsX20)
def wsX3_forget : List Cond := .code yX3_forget cX3_forget 4 none :: ([.fieldLink RX3 11 "NeighborBook$Neighbors" "rows" "[LNeighborBook$Neighbor;", .fieldLink RX3 18 "NeighborBook$Neighbors" "size" "I", .methodLink RX3 40 yX3_has, .instanceMethod yX3_has, .selects RX3 yX3_has yX3_has, .initialized RX3, .code yX3_has cX3_has 2 (some .boolean)] ++ wsX30)
def wsX3_forgetAllAt : List Cond := .code yX3_forgetAllAt cX3_forgetAllAt 3 none :: ([.fieldLink RX3 18 "NeighborBook$Neighbors" "size" "I", .fieldLink RX3 11 "NeighborBook$Neighbors" "rows" "[LNeighborBook$Neighbor;", .methodLink RX3 22 yX2_portOf, .instanceMethod yX2_portOf, .selects RX2 yX2_portOf yX2_portOf, .initialized RX2, .code yX2_portOf cX2_portOf 1 (some .int), .fieldLink RX2 18 "NeighborBook$Neighbor" "port" "I", .methodLink RX3 44 yX3_forget, .instanceMethod yX3_forget, .selects RX3 yX3_forget yX3_forget, .initialized RX3, .code yX3_forget cX3_forget 4 none, .methodLink RX3 40 yX3_has, .instanceMethod yX3_has, .selects RX3 yX3_has yX3_has, .code yX3_has cX3_has 2 (some .boolean)] ++ wsX30 ++ wsX20)
def wsX3_passTick : List Cond := .code yX3_passTick cX3_passTick 2 none :: ([.fieldLink RX3 18 "NeighborBook$Neighbors" "size" "I", .fieldLink RX3 11 "NeighborBook$Neighbors" "rows" "[LNeighborBook$Neighbor;", .methodLink RX3 47 yX2_passTick, .instanceMethod yX2_passTick, .selects RX2 yX2_passTick yX2_passTick, .initialized RX2, .code yX2_passTick cX2_passTick 1 (some .boolean), .fieldLink RX2 25 "NeighborBook$Neighbor" "ticksLeft" "I", .methodLink RX3 44 yX3_forget, .instanceMethod yX3_forget, .selects RX3 yX3_forget yX3_forget, .initialized RX3, .code yX3_forget cX3_forget 4 none, .methodLink RX3 40 yX3_has, .instanceMethod yX3_has, .selects RX3 yX3_has yX3_has, .code yX3_has cX3_has 2 (some .boolean)] ++ wsX30 ++ wsX20)
def wsX4_init : List Cond := .code yX4_init cX4_init 1 none :: ([.methodLink RX4 3 objectInit, .instanceMethod objectInit, .code objectInit ⟨#[0xb1]⟩ 1 none])
def wsX4_isUp : List Cond := .code yX4_isUp cX4_isUp 1 (some .boolean) :: ([.fieldLink RX4 9 "NeighborBook$Port" "up" "Z"] ++ wsX40)
def wsX4_goUp : List Cond := .code yX4_goUp cX4_goUp 2 none :: ([.fieldLink RX4 9 "NeighborBook$Port" "up" "Z", .fieldLink RX4 15 "NeighborBook$Port" "quickLeft" "I", .fieldLink RX4 19 "NeighborBook$Port" "waitLeft" "I"] ++ wsX40)
def wsX4_goDown : List Cond := .code yX4_goDown cX4_goDown 1 none :: ([.fieldLink RX4 9 "NeighborBook$Port" "up" "Z", .fieldLink RX4 19 "NeighborBook$Port" "waitLeft" "I", .fieldLink RX4 22 "NeighborBook$Port" "framesSent" "I"] ++ wsX40)
def wsX4_hurry : List Cond := .code yX4_hurry cX4_hurry 1 none :: ([.fieldLink RX4 9 "NeighborBook$Port" "up" "Z", .fieldLink RX4 19 "NeighborBook$Port" "waitLeft" "I"] ++ wsX40)
def wsX4_greet : List Cond := .code yX4_greet cX4_greet 2 none :: ([.fieldLink RX4 15 "NeighborBook$Port" "quickLeft" "I", .methodLink RX4 25 Lib.Math.max.name, .static Lib.Math.max.name, .initialized "java/lang/Math", .code Lib.Math.max.name Lib.Math.max.code 2 (some .int), .fieldLink RX4 19 "NeighborBook$Port" "waitLeft" "I"] ++ wsX40)
def wsX4_noteHeard : List Cond := .code yX4_noteHeard cX4_noteHeard 2 none :: ([.fieldLink RX4 31 "NeighborBook$Port" "heardWell" "I", .fieldLink RX4 34 "NeighborBook$Port" "heardFaulty" "I"] ++ wsX40)
def wsX4_passTick : List Cond := .code yX4_passTick cX4_passTick 2 (some .boolean) :: ([.fieldLink RX4 9 "NeighborBook$Port" "up" "Z", .fieldLink RX4 19 "NeighborBook$Port" "waitLeft" "I", .fieldLink RX4 22 "NeighborBook$Port" "framesSent" "I", .fieldLink RX4 15 "NeighborBook$Port" "quickLeft" "I"] ++ wsX40)
def wsX4_tellAbout : List Cond := .code yX4_tellAbout cX4_tellAbout 2 (some .int) :: ([.fieldLink RX4 9 "NeighborBook$Port" "up" "Z", .fieldLink RX4 22 "NeighborBook$Port" "framesSent" "I", .fieldLink RX4 31 "NeighborBook$Port" "heardWell" "I", .fieldLink RX4 34 "NeighborBook$Port" "heardFaulty" "I", .fieldLink RX4 19 "NeighborBook$Port" "waitLeft" "I", .fieldLink RX4 15 "NeighborBook$Port" "quickLeft" "I"] ++ wsX40)
def wsX5_init : List Cond := .code yX5_init cX5_init 1 none :: ([.methodLink RX5 3 objectInit, .instanceMethod objectInit, .code objectInit ⟨#[0xb1]⟩ 1 none, .arrayClass .byte, .fieldLink RX5 9 "NeighborBook$SentFrame" "bytes" "[B", .fieldLink RX5 15 "NeighborBook$SentFrame" "port" "I"] ++ wsX50)
def wsX5_length : List Cond := .code yX5_length cX5_length 1 (some .int) :: ([.fieldLink RX5 19 "NeighborBook$SentFrame" "length" "I"] ++ wsX50)
def wsX5_portOf : List Cond := .code yX5_portOf cX5_portOf 1 (some .int) :: ([.fieldLink RX5 15 "NeighborBook$SentFrame" "port" "I"] ++ wsX50)
def wsX5_byteAt : List Cond := .code yX5_byteAt cX5_byteAt 2 (some .int) :: ([.fieldLink RX5 19 "NeighborBook$SentFrame" "length" "I", .fieldLink RX5 9 "NeighborBook$SentFrame" "bytes" "[B"] ++ wsX50)
def wsX5_putByte : List Cond := .code yX5_putByte cX5_putByte 2 none :: ([.fieldLink RX5 19 "NeighborBook$SentFrame" "length" "I", .fieldLink RX5 9 "NeighborBook$SentFrame" "bytes" "[B"] ++ wsX50)
def wsX5_putHead : List Cond := .code yX5_putHead cX5_putHead 4 none :: ([.methodLink RX5 36 yX5_putByte, .instanceMethod yX5_putByte, .selects RX5 yX5_putByte yX5_putByte, .initialized RX5, .code yX5_putByte cX5_putByte 2 none, .fieldLink RX5 19 "NeighborBook$SentFrame" "length" "I", .fieldLink RX5 9 "NeighborBook$SentFrame" "bytes" "[B"] ++ wsX50)
def wsX5_putContent : List Cond := .code yX5_putContent cX5_putContent 5 none :: ([.methodLink RX5 22 yX0_sizeOf, .instanceMethod yX0_sizeOf, .selects RX0 yX0_sizeOf yX0_sizeOf, .initialized RX0, .code yX0_sizeOf cX0_sizeOf 2 (some .int), .fieldLink RX0 9 "NeighborBook$Contents" "sizes" "[I", .methodLink RX5 44 yX0_byteAt, .instanceMethod yX0_byteAt, .selects RX0 yX0_byteAt yX0_byteAt, .code yX0_byteAt cX0_byteAt 3 (some .int), .fieldLink RX0 15 "NeighborBook$Contents" "bytes" "[B", .methodLink RX0 48 yX0_sizeOf, .methodLink RX0 35 yX0_startOf, .static yX0_startOf, .code yX0_startOf cX0_startOf 1 (some .int), .methodLink RX5 36 yX5_putByte, .instanceMethod yX5_putByte, .selects RX5 yX5_putByte yX5_putByte, .initialized RX5, .code yX5_putByte cX5_putByte 2 none, .fieldLink RX5 19 "NeighborBook$SentFrame" "length" "I", .fieldLink RX5 9 "NeighborBook$SentFrame" "bytes" "[B"] ++ wsX00 ++ wsX50)
def wsX5_write_r1 : List Cond := [Cond.fieldLink RX5 15 "NeighborBook$SentFrame" "port" "I", Cond.fieldLink RX5 19 "NeighborBook$SentFrame" "length" "I", Cond.methodLink RX5 22 yX0_sizeOf, Cond.instanceMethod yX0_sizeOf, Cond.selects RX0 yX0_sizeOf yX0_sizeOf, Cond.initialized RX0, Cond.code yX0_sizeOf cX0_sizeOf 2 (some .int), Cond.fieldLink RX0 9 "NeighborBook$Contents" "sizes" "[I", Cond.methodLink RX5 28 yX5_putHead, Cond.instanceMethod yX5_putHead, Cond.selects RX5 yX5_putHead yX5_putHead, Cond.initialized RX5, Cond.code yX5_putHead cX5_putHead 4 none, Cond.methodLink RX5 36 yX5_putByte, Cond.instanceMethod yX5_putByte, Cond.selects RX5 yX5_putByte yX5_putByte, Cond.code yX5_putByte cX5_putByte 2 none, Cond.fieldLink RX5 9 "NeighborBook$SentFrame" "bytes" "[B", Cond.methodLink RX5 32 yX5_putContent, Cond.instanceMethod yX5_putContent, Cond.selects RX5 yX5_putContent yX5_putContent, Cond.code yX5_putContent cX5_putContent 5 none, Cond.methodLink RX5 44 yX0_byteAt, Cond.instanceMethod yX0_byteAt]
def wsX5_write_r2 : List Cond := [Cond.selects RX0 yX0_byteAt yX0_byteAt, Cond.code yX0_byteAt cX0_byteAt 3 (some .int), Cond.fieldLink RX0 15 "NeighborBook$Contents" "bytes" "[B", Cond.methodLink RX0 48 yX0_sizeOf, Cond.methodLink RX0 35 yX0_startOf, Cond.static yX0_startOf, Cond.code yX0_startOf cX0_startOf 1 (some .int), Cond.methodLink RX5 40 yX0_has, Cond.instanceMethod yX0_has, Cond.selects RX0 yX0_has yX0_has, Cond.code yX0_has cX0_has 2 (some .boolean)]
def wsX5_write : List Cond := .code yX5_write cX5_write 5 none :: ((wsX5_write_r1 ++ wsX5_write_r2) ++ wsX50 ++ wsX00)
def wsX6_init_r1 : List Cond := [Cond.methodLink RX6 1 objectInit, Cond.instanceMethod objectInit, Cond.code objectInit ⟨#[0xb1]⟩ 1 none, Cond.arrayClass .byte, Cond.fieldLink RX6 9 "NeighborBook" "typed" "[B", Cond.classLink RX6 13 RX0, Cond.instantiable RX0 2, Cond.initialized RX0, Cond.fieldLink RX6 16 "NeighborBook" "told" "LNeighborBook$Contents;", Cond.classLink RX6 20 RX4, Cond.fieldLink RX6 22 "NeighborBook" "ports" "[LNeighborBook$Port;", Cond.classLink RX6 26 RX3, Cond.instantiable RX3 2, Cond.initialized RX3, Cond.fieldLink RX6 29 "NeighborBook" "known" "LNeighborBook$Neighbors;", Cond.classLink RX6 33 RX1, Cond.instantiable RX1 2, Cond.initialized RX1, Cond.fieldLink RX6 36 "NeighborBook" "reader" "LNeighborBook$FrameReader;", Cond.classLink RX6 40 RX5, Cond.instantiable RX5 3, Cond.initialized RX5, Cond.fieldLink RX6 43 "NeighborBook" "latest" "LNeighborBook$SentFrame;", Cond.fieldLink RX6 47 "NeighborBook" "interval" "I"]
def wsX6_init_r2 : List Cond := [Cond.fieldLink RX6 51 "NeighborBook" "hold" "I", Cond.fieldLink RX6 54 "NeighborBook" "quick" "I", Cond.instantiable RX4 6, Cond.initialized RX4, Cond.fieldLink RX6 58 "NeighborBook" "FIRST_NAME" "[B", Cond.methodLink RX6 15 yX0_init, Cond.instanceMethod yX0_init, Cond.code yX0_init cX0_init 1 none, Cond.methodLink RX0 3 objectInit, Cond.arrayClass .int, Cond.fieldLink RX0 9 "NeighborBook$Contents" "sizes" "[I", Cond.fieldLink RX0 15 "NeighborBook$Contents" "bytes" "[B", Cond.methodLink RX0 19 yX0_clear, Cond.instanceMethod yX0_clear, Cond.selects RX0 yX0_clear yX0_clear, Cond.code yX0_clear cX0_clear 1 none, Cond.methodLink RX0 26 yJ7_fill_53178, Cond.static yJ7_fill_53178, Cond.initialized RJ7, Cond.code yJ7_fill_53178 cJ7_fill_53178 4 none, Cond.methodLink RX6 28 yX3_init, Cond.instanceMethod yX3_init, Cond.code yX3_init cX3_init 2 none, Cond.methodLink RX3 3 objectInit]
def wsX6_init_r3 : List Cond := [Cond.classLink RX3 9 RX2, Cond.fieldLink RX3 11 "NeighborBook$Neighbors" "rows" "[LNeighborBook$Neighbor;", Cond.instantiable RX2 4, Cond.initialized RX2, Cond.instanceMethod yX2_init, Cond.code yX2_init cX2_init 1 none, Cond.methodLink RX2 3 objectInit, Cond.classLink RX2 9 RX0, Cond.fieldLink RX2 12 "NeighborBook$Neighbor" "contents" "LNeighborBook$Contents;", Cond.methodLink RX2 11 yX0_init, Cond.instanceMethod yX1_init, Cond.code yX1_init cX1_init 1 none, Cond.methodLink RX1 3 objectInit, Cond.classLink RX1 9 RX0, Cond.fieldLink RX1 12 "NeighborBook$FrameReader" "contents" "LNeighborBook$Contents;", Cond.methodLink RX1 11 yX0_init, Cond.instanceMethod yX5_init, Cond.code yX5_init cX5_init 1 none, Cond.methodLink RX5 3 objectInit, Cond.fieldLink RX5 9 "NeighborBook$SentFrame" "bytes" "[B", Cond.fieldLink RX5 15 "NeighborBook$SentFrame" "port" "I", Cond.instanceMethod yX4_init, Cond.code yX4_init cX4_init 1 none, Cond.methodLink RX4 3 objectInit]
def wsX6_init_r4 : List Cond := [Cond.methodLink RX6 61 yX0_keep, Cond.instanceMethod yX0_keep, Cond.selects RX0 yX0_keep yX0_keep, Cond.code yX0_keep cX0_keep 5 none, Cond.methodLink RX0 39 arraycopyName, Cond.native arraycopyName, Cond.static arraycopyName, Cond.initialized "java/lang/System", Cond.methodLink RX0 32 yX0_isKept, Cond.static yX0_isKept, Cond.code yX0_isKept cX0_isKept 1 (some .boolean), Cond.static yX6_isMore, Cond.initialized RX6, Cond.code yX6_isMore cX6_isMore 1 (some .boolean), Cond.methodLink RX0 35 yX0_startOf, Cond.static yX0_startOf, Cond.code yX0_startOf cX0_startOf 1 (some .int)]
def wsX6_init : List Cond := .code yX6_init cX6_init 2 none :: ((wsX6_init_r1 ++ (wsX6_init_r2 ++ (wsX6_init_r3 ++ wsX6_init_r4))) ++ wsX60 ++ wsX00 ++ wsX30 ++ wsX10 ++ wsX50 ++ wsX40 ++ wsX20)
def wsX6_type : List Cond := .code yX6_type cX6_type 5 (some .int) :: ([.fieldLink RX6 65 "NeighborBook" "typedCount" "I", .fieldLink RX6 9 "NeighborBook" "typed" "[B"] ++ wsX60)
def wsX6_isTellable : List Cond := .code yX6_isTellable cX6_isTellable 2 (some .boolean) :: ([.methodLink RX6 174 yX6_isMore, .static yX6_isMore, .initialized RX6, .code yX6_isMore cX6_isMore 1 (some .boolean)])
def wsX6_hurryAll : List Cond := .code yX6_hurryAll cX6_hurryAll 2 none :: ([.fieldLink RX6 22 "NeighborBook" "ports" "[LNeighborBook$Port;", .methodLink RX6 188 yX4_hurry, .instanceMethod yX4_hurry, .selects RX4 yX4_hurry yX4_hurry, .initialized RX4, .code yX4_hurry cX4_hurry 1 none, .fieldLink RX4 9 "NeighborBook$Port" "up" "Z", .fieldLink RX4 19 "NeighborBook$Port" "waitLeft" "I"] ++ wsX60 ++ wsX40)
def wsX6_tellNothing_r1 : List Cond := [Cond.fieldLink RX6 16 "NeighborBook" "told" "LNeighborBook$Contents;", Cond.methodLink RX6 177 yX0_has, Cond.instanceMethod yX0_has, Cond.selects RX0 yX0_has yX0_has, Cond.initialized RX0, Cond.code yX0_has cX0_has 2 (some .boolean), Cond.methodLink RX0 48 yX0_sizeOf, Cond.instanceMethod yX0_sizeOf, Cond.selects RX0 yX0_sizeOf yX0_sizeOf, Cond.code yX0_sizeOf cX0_sizeOf 2 (some .int), Cond.fieldLink RX0 9 "NeighborBook$Contents" "sizes" "[I", Cond.methodLink RX6 178 yX0_drop, Cond.instanceMethod yX0_drop, Cond.selects RX0 yX0_drop yX0_drop, Cond.code yX0_drop cX0_drop 2 none, Cond.methodLink RX0 45 yX0_has, Cond.methodLink RX6 181 yX6_hurryAll, Cond.instanceMethod yX6_hurryAll, Cond.selects RX6 yX6_hurryAll yX6_hurryAll, Cond.initialized RX6, Cond.code yX6_hurryAll cX6_hurryAll 2 none, Cond.fieldLink RX6 22 "NeighborBook" "ports" "[LNeighborBook$Port;", Cond.methodLink RX6 188 yX4_hurry, Cond.instanceMethod yX4_hurry]
def wsX6_tellNothing_r2 : List Cond := [Cond.selects RX4 yX4_hurry yX4_hurry, Cond.initialized RX4, Cond.code yX4_hurry cX4_hurry 1 none, Cond.fieldLink RX4 9 "NeighborBook$Port" "up" "Z", Cond.fieldLink RX4 19 "NeighborBook$Port" "waitLeft" "I"]
def wsX6_tellNothing : List Cond := .code yX6_tellNothing cX6_tellNothing 2 none :: ((wsX6_tellNothing_r1 ++ wsX6_tellNothing_r2) ++ wsX60 ++ wsX00 ++ wsX40)
def wsX6_tellTyped_r1 : List Cond := [Cond.fieldLink RX6 16 "NeighborBook" "told" "LNeighborBook$Contents;", Cond.fieldLink RX6 9 "NeighborBook" "typed" "[B", Cond.fieldLink RX6 65 "NeighborBook" "typedCount" "I", Cond.methodLink RX6 184 yX0_isSame, Cond.instanceMethod yX0_isSame, Cond.selects RX0 yX0_isSame yX0_isSame, Cond.initialized RX0, Cond.code yX0_isSame cX0_isSame 7 (some .boolean), Cond.fieldLink RX0 15 "NeighborBook$Contents" "bytes" "[B", Cond.methodLink RX0 48 yX0_sizeOf, Cond.instanceMethod yX0_sizeOf, Cond.selects RX0 yX0_sizeOf yX0_sizeOf, Cond.code yX0_sizeOf cX0_sizeOf 2 (some .int), Cond.fieldLink RX0 9 "NeighborBook$Contents" "sizes" "[I", Cond.methodLink RX0 35 yX0_startOf, Cond.static yX0_startOf, Cond.code yX0_startOf cX0_startOf 1 (some .int), Cond.methodLink RX6 61 yX0_keep, Cond.instanceMethod yX0_keep, Cond.selects RX0 yX0_keep yX0_keep, Cond.code yX0_keep cX0_keep 5 none, Cond.methodLink RX0 39 arraycopyName, Cond.native arraycopyName, Cond.static arraycopyName]
def wsX6_tellTyped_r2 : List Cond := [Cond.initialized "java/lang/System", Cond.methodLink RX0 32 yX0_isKept, Cond.static yX0_isKept, Cond.code yX0_isKept cX0_isKept 1 (some .boolean), Cond.static yX6_isMore, Cond.initialized RX6, Cond.code yX6_isMore cX6_isMore 1 (some .boolean), Cond.methodLink RX6 181 yX6_hurryAll, Cond.instanceMethod yX6_hurryAll, Cond.selects RX6 yX6_hurryAll yX6_hurryAll, Cond.code yX6_hurryAll cX6_hurryAll 2 none, Cond.fieldLink RX6 22 "NeighborBook" "ports" "[LNeighborBook$Port;", Cond.methodLink RX6 188 yX4_hurry, Cond.instanceMethod yX4_hurry, Cond.selects RX4 yX4_hurry yX4_hurry, Cond.initialized RX4, Cond.code yX4_hurry cX4_hurry 1 none, Cond.fieldLink RX4 9 "NeighborBook$Port" "up" "Z", Cond.fieldLink RX4 19 "NeighborBook$Port" "waitLeft" "I"]
def wsX6_tellTyped : List Cond := .code yX6_tellTyped cX6_tellTyped 2 none :: ((wsX6_tellTyped_r1 ++ wsX6_tellTyped_r2) ++ wsX60 ++ wsX00 ++ wsX40)
def wsX6_tell_r1 : List Cond := [Cond.fieldLink RX6 65 "NeighborBook" "typedCount" "I", Cond.methodLink RX6 68 yX6_isTellable, Cond.static yX6_isTellable, Cond.initialized RX6, Cond.code yX6_isTellable cX6_isTellable 2 (some .boolean), Cond.methodLink RX6 174 yX6_isMore, Cond.static yX6_isMore, Cond.code yX6_isMore cX6_isMore 1 (some .boolean), Cond.methodLink RX6 72 yX6_tellNothing, Cond.instanceMethod yX6_tellNothing, Cond.selects RX6 yX6_tellNothing yX6_tellNothing, Cond.code yX6_tellNothing cX6_tellNothing 2 none, Cond.fieldLink RX6 16 "NeighborBook" "told" "LNeighborBook$Contents;", Cond.methodLink RX6 177 yX0_has, Cond.instanceMethod yX0_has, Cond.selects RX0 yX0_has yX0_has, Cond.initialized RX0, Cond.code yX0_has cX0_has 2 (some .boolean), Cond.methodLink RX0 48 yX0_sizeOf, Cond.instanceMethod yX0_sizeOf, Cond.selects RX0 yX0_sizeOf yX0_sizeOf, Cond.code yX0_sizeOf cX0_sizeOf 2 (some .int), Cond.fieldLink RX0 9 "NeighborBook$Contents" "sizes" "[I", Cond.methodLink RX6 178 yX0_drop]
def wsX6_tell_r2 : List Cond := [Cond.instanceMethod yX0_drop, Cond.selects RX0 yX0_drop yX0_drop, Cond.code yX0_drop cX0_drop 2 none, Cond.methodLink RX0 45 yX0_has, Cond.methodLink RX6 181 yX6_hurryAll, Cond.instanceMethod yX6_hurryAll, Cond.selects RX6 yX6_hurryAll yX6_hurryAll, Cond.code yX6_hurryAll cX6_hurryAll 2 none, Cond.fieldLink RX6 22 "NeighborBook" "ports" "[LNeighborBook$Port;", Cond.methodLink RX6 188 yX4_hurry, Cond.instanceMethod yX4_hurry, Cond.selects RX4 yX4_hurry yX4_hurry, Cond.initialized RX4, Cond.code yX4_hurry cX4_hurry 1 none, Cond.fieldLink RX4 9 "NeighborBook$Port" "up" "Z", Cond.fieldLink RX4 19 "NeighborBook$Port" "waitLeft" "I", Cond.methodLink RX6 76 yX6_tellTyped, Cond.instanceMethod yX6_tellTyped, Cond.selects RX6 yX6_tellTyped yX6_tellTyped, Cond.code yX6_tellTyped cX6_tellTyped 2 none, Cond.fieldLink RX6 9 "NeighborBook" "typed" "[B", Cond.methodLink RX6 184 yX0_isSame, Cond.instanceMethod yX0_isSame, Cond.selects RX0 yX0_isSame yX0_isSame]
def wsX6_tell_r3 : List Cond := [Cond.code yX0_isSame cX0_isSame 7 (some .boolean), Cond.fieldLink RX0 15 "NeighborBook$Contents" "bytes" "[B", Cond.methodLink RX0 35 yX0_startOf, Cond.static yX0_startOf, Cond.code yX0_startOf cX0_startOf 1 (some .int), Cond.methodLink RX6 61 yX0_keep, Cond.instanceMethod yX0_keep, Cond.selects RX0 yX0_keep yX0_keep, Cond.code yX0_keep cX0_keep 5 none, Cond.methodLink RX0 39 arraycopyName, Cond.native arraycopyName, Cond.static arraycopyName, Cond.initialized "java/lang/System", Cond.methodLink RX0 32 yX0_isKept, Cond.static yX0_isKept, Cond.code yX0_isKept cX0_isKept 1 (some .boolean)]
def wsX6_tell : List Cond := .code yX6_tell cX6_tell 2 (some .int) :: ((wsX6_tell_r1 ++ (wsX6_tell_r2 ++ wsX6_tell_r3)) ++ wsX60 ++ wsX00 ++ wsX40)
def wsX6_set : List Cond := .code yX6_set cX6_set 3 (some .int) :: ([.fieldLink RX6 47 "NeighborBook" "interval" "I", .fieldLink RX6 51 "NeighborBook" "hold" "I", .fieldLink RX6 54 "NeighborBook" "quick" "I"] ++ wsX60)
def wsX6_isPort : List Cond := .code yX6_isPort cX6_isPort 1 (some .boolean) :: ([])
def wsX6_port_r1 : List Cond := [Cond.fieldLink RX6 22 "NeighborBook" "ports" "[LNeighborBook$Port;", Cond.fieldLink RX6 54 "NeighborBook" "quick" "I", Cond.fieldLink RX6 43 "NeighborBook" "latest" "LNeighborBook$SentFrame;", Cond.fieldLink RX6 16 "NeighborBook" "told" "LNeighborBook$Contents;", Cond.fieldLink RX6 29 "NeighborBook" "known" "LNeighborBook$Neighbors;", Cond.methodLink RX6 79 yX6_isPort, Cond.static yX6_isPort, Cond.initialized RX6, Cond.code yX6_isPort cX6_isPort 1 (some .boolean), Cond.methodLink RX6 83 yX4_isUp, Cond.instanceMethod yX4_isUp, Cond.selects RX4 yX4_isUp yX4_isUp, Cond.initialized RX4, Cond.code yX4_isUp cX4_isUp 1 (some .boolean), Cond.fieldLink RX4 9 "NeighborBook$Port" "up" "Z", Cond.methodLink RX6 87 yX4_goUp, Cond.instanceMethod yX4_goUp, Cond.selects RX4 yX4_goUp yX4_goUp, Cond.code yX4_goUp cX4_goUp 2 none, Cond.fieldLink RX4 15 "NeighborBook$Port" "quickLeft" "I", Cond.fieldLink RX4 19 "NeighborBook$Port" "waitLeft" "I", Cond.methodLink RX6 90 yX4_goDown, Cond.instanceMethod yX4_goDown, Cond.selects RX4 yX4_goDown yX4_goDown]
def wsX6_port_r2 : List Cond := [Cond.code yX4_goDown cX4_goDown 1 none, Cond.fieldLink RX4 22 "NeighborBook$Port" "framesSent" "I", Cond.methodLink RX6 93 yX5_write, Cond.instanceMethod yX5_write, Cond.selects RX5 yX5_write yX5_write, Cond.initialized RX5, Cond.code yX5_write cX5_write 5 none, Cond.fieldLink RX5 15 "NeighborBook$SentFrame" "port" "I", Cond.fieldLink RX5 19 "NeighborBook$SentFrame" "length" "I", Cond.methodLink RX5 22 yX0_sizeOf, Cond.instanceMethod yX0_sizeOf, Cond.selects RX0 yX0_sizeOf yX0_sizeOf, Cond.initialized RX0, Cond.code yX0_sizeOf cX0_sizeOf 2 (some .int), Cond.fieldLink RX0 9 "NeighborBook$Contents" "sizes" "[I", Cond.methodLink RX5 28 yX5_putHead, Cond.instanceMethod yX5_putHead, Cond.selects RX5 yX5_putHead yX5_putHead, Cond.code yX5_putHead cX5_putHead 4 none, Cond.methodLink RX5 36 yX5_putByte, Cond.instanceMethod yX5_putByte, Cond.selects RX5 yX5_putByte yX5_putByte, Cond.code yX5_putByte cX5_putByte 2 none, Cond.fieldLink RX5 9 "NeighborBook$SentFrame" "bytes" "[B"]
def wsX6_port_r3 : List Cond := [Cond.methodLink RX5 32 yX5_putContent, Cond.instanceMethod yX5_putContent, Cond.selects RX5 yX5_putContent yX5_putContent, Cond.code yX5_putContent cX5_putContent 5 none, Cond.methodLink RX5 44 yX0_byteAt, Cond.instanceMethod yX0_byteAt, Cond.selects RX0 yX0_byteAt yX0_byteAt, Cond.code yX0_byteAt cX0_byteAt 3 (some .int), Cond.fieldLink RX0 15 "NeighborBook$Contents" "bytes" "[B", Cond.methodLink RX0 48 yX0_sizeOf, Cond.methodLink RX0 35 yX0_startOf, Cond.static yX0_startOf, Cond.code yX0_startOf cX0_startOf 1 (some .int), Cond.methodLink RX5 40 yX0_has, Cond.instanceMethod yX0_has, Cond.selects RX0 yX0_has yX0_has, Cond.code yX0_has cX0_has 2 (some .boolean), Cond.methodLink RX6 97 yX3_forgetAllAt, Cond.instanceMethod yX3_forgetAllAt, Cond.selects RX3 yX3_forgetAllAt yX3_forgetAllAt, Cond.initialized RX3, Cond.code yX3_forgetAllAt cX3_forgetAllAt 3 none, Cond.fieldLink RX3 18 "NeighborBook$Neighbors" "size" "I", Cond.fieldLink RX3 11 "NeighborBook$Neighbors" "rows" "[LNeighborBook$Neighbor;"]
def wsX6_port_r4 : List Cond := [Cond.methodLink RX3 22 yX2_portOf, Cond.instanceMethod yX2_portOf, Cond.selects RX2 yX2_portOf yX2_portOf, Cond.initialized RX2, Cond.code yX2_portOf cX2_portOf 1 (some .int), Cond.fieldLink RX2 18 "NeighborBook$Neighbor" "port" "I", Cond.methodLink RX3 44 yX3_forget, Cond.instanceMethod yX3_forget, Cond.selects RX3 yX3_forget yX3_forget, Cond.code yX3_forget cX3_forget 4 none, Cond.methodLink RX3 40 yX3_has, Cond.instanceMethod yX3_has, Cond.selects RX3 yX3_has yX3_has, Cond.code yX3_has cX3_has 2 (some .boolean)]
def wsX6_port : List Cond := .code yX6_port cX6_port 3 (some .int) :: ((wsX6_port_r1 ++ (wsX6_port_r2 ++ (wsX6_port_r3 ++ wsX6_port_r4))) ++ wsX60 ++ wsX40 ++ wsX50 ++ wsX00 ++ wsX30 ++ wsX20)
def wsX6_learn_r1 : List Cond := [Cond.fieldLink RX6 29 "NeighborBook" "known" "LNeighborBook$Neighbors;", Cond.fieldLink RX6 36 "NeighborBook" "reader" "LNeighborBook$FrameReader;", Cond.fieldLink RX6 22 "NeighborBook" "ports" "[LNeighborBook$Port;", Cond.fieldLink RX6 54 "NeighborBook" "quick" "I", Cond.methodLink RX6 191 yX1_contents, Cond.instanceMethod yX1_contents, Cond.selects RX1 yX1_contents yX1_contents, Cond.initialized RX1, Cond.code yX1_contents cX1_contents 1 (some (.object "NeighborBook$Contents")), Cond.fieldLink RX1 12 "NeighborBook$FrameReader" "contents" "LNeighborBook$Contents;", Cond.methodLink RX6 170 yX3_find, Cond.instanceMethod yX3_find, Cond.selects RX3 yX3_find yX3_find, Cond.initialized RX3, Cond.code yX3_find cX3_find 4 (some .int), Cond.fieldLink RX3 18 "NeighborBook$Neighbors" "size" "I", Cond.fieldLink RX3 11 "NeighborBook$Neighbors" "rows" "[LNeighborBook$Neighbor;", Cond.methodLink RX3 22 yX2_portOf, Cond.instanceMethod yX2_portOf, Cond.selects RX2 yX2_portOf yX2_portOf, Cond.initialized RX2, Cond.code yX2_portOf cX2_portOf 1 (some .int), Cond.fieldLink RX2 18 "NeighborBook$Neighbor" "port" "I", Cond.methodLink RX3 26 yX2_contents]
def wsX6_learn_r2 : List Cond := [Cond.instanceMethod yX2_contents, Cond.selects RX2 yX2_contents yX2_contents, Cond.code yX2_contents cX2_contents 1 (some (.object "NeighborBook$Contents")), Cond.fieldLink RX2 12 "NeighborBook$Neighbor" "contents" "LNeighborBook$Contents;", Cond.methodLink RX3 30 yX0_isSameStation, Cond.instanceMethod yX0_isSameStation, Cond.selects RX0 yX0_isSameStation yX0_isSameStation, Cond.initialized RX0, Cond.code yX0_isSameStation cX0_isSameStation 2 (some .boolean), Cond.fieldLink RX0 15 "NeighborBook$Contents" "bytes" "[B", Cond.methodLink RX0 35 yX0_startOf, Cond.static yX0_startOf, Cond.code yX0_startOf cX0_startOf 1 (some .int), Cond.methodLink RX0 48 yX0_sizeOf, Cond.instanceMethod yX0_sizeOf, Cond.selects RX0 yX0_sizeOf yX0_sizeOf, Cond.code yX0_sizeOf cX0_sizeOf 2 (some .int), Cond.fieldLink RX0 9 "NeighborBook$Contents" "sizes" "[I", Cond.methodLink RX0 51 yX0_isSame, Cond.instanceMethod yX0_isSame, Cond.selects RX0 yX0_isSame yX0_isSame, Cond.code yX0_isSame cX0_isSame 7 (some .boolean), Cond.methodLink RX6 192 yX1_held, Cond.instanceMethod yX1_held]
def wsX6_learn_r3 : List Cond := [Cond.selects RX1 yX1_held yX1_held, Cond.code yX1_held cX1_held 1 (some .int), Cond.fieldLink RX1 18 "NeighborBook$FrameReader" "held" "I", Cond.methodLink RX6 195 yX3_forget, Cond.instanceMethod yX3_forget, Cond.selects RX3 yX3_forget yX3_forget, Cond.code yX3_forget cX3_forget 4 none, Cond.methodLink RX3 40 yX3_has, Cond.instanceMethod yX3_has, Cond.selects RX3 yX3_has yX3_has, Cond.code yX3_has cX3_has 2 (some .boolean), Cond.methodLink RX6 198 yX3_add, Cond.instanceMethod yX3_add, Cond.selects RX3 yX3_add yX3_add, Cond.code yX3_add cX3_add 3 (some .int), Cond.methodLink RX3 36 yX2_begin, Cond.instanceMethod yX2_begin, Cond.selects RX2 yX2_begin yX2_begin, Cond.code yX2_begin cX2_begin 2 none, Cond.fieldLink RX2 22 "NeighborBook$Neighbor" "frames" "I", Cond.methodLink RX6 201 yX4_greet, Cond.instanceMethod yX4_greet, Cond.selects RX4 yX4_greet yX4_greet, Cond.initialized RX4]
def wsX6_learn_r4 : List Cond := [Cond.code yX4_greet cX4_greet 2 none, Cond.fieldLink RX4 15 "NeighborBook$Port" "quickLeft" "I", Cond.methodLink RX4 25 Lib.Math.max.name, Cond.static Lib.Math.max.name, Cond.initialized "java/lang/Math", Cond.code Lib.Math.max.name Lib.Math.max.code 2 (some .int), Cond.fieldLink RX4 19 "NeighborBook$Port" "waitLeft" "I", Cond.methodLink RX6 153 yX3_at, Cond.instanceMethod yX3_at, Cond.selects RX3 yX3_at yX3_at, Cond.code yX3_at cX3_at 2 (some (.object "NeighborBook$Neighbor")), Cond.methodLink RX6 204 yX2_renew, Cond.instanceMethod yX2_renew, Cond.selects RX2 yX2_renew yX2_renew, Cond.code yX2_renew cX2_renew 4 (some (.object "NeighborBook$Contents")), Cond.fieldLink RX2 25 "NeighborBook$Neighbor" "ticksLeft" "I", Cond.methodLink RX6 208 yX1_useNext, Cond.instanceMethod yX1_useNext, Cond.selects RX1 yX1_useNext yX1_useNext, Cond.code yX1_useNext cX1_useNext 2 none]
def wsX6_learn : List Cond := .code yX6_learn cX6_learn 4 (some .int) :: ((wsX6_learn_r1 ++ (wsX6_learn_r2 ++ (wsX6_learn_r3 ++ wsX6_learn_r4))) ++ wsX60 ++ wsX10 ++ wsX30 ++ wsX20 ++ wsX00 ++ wsX40)
def wsX6_hear_r1 : List Cond := [Cond.fieldLink RX6 22 "NeighborBook" "ports" "[LNeighborBook$Port;", Cond.fieldLink RX6 36 "NeighborBook" "reader" "LNeighborBook$FrameReader;", Cond.fieldLink RX6 9 "NeighborBook" "typed" "[B", Cond.fieldLink RX6 65 "NeighborBook" "typedCount" "I", Cond.fieldLink RX6 112 "NeighborBook" "latestFault" "I", Cond.methodLink RX6 79 yX6_isPort, Cond.static yX6_isPort, Cond.initialized RX6, Cond.code yX6_isPort cX6_isPort 1 (some .boolean), Cond.methodLink RX6 83 yX4_isUp, Cond.instanceMethod yX4_isUp, Cond.selects RX4 yX4_isUp yX4_isUp, Cond.initialized RX4, Cond.code yX4_isUp cX4_isUp 1 (some .boolean), Cond.fieldLink RX4 9 "NeighborBook$Port" "up" "Z", Cond.methodLink RX6 100 yX1_read, Cond.instanceMethod yX1_read, Cond.selects RX1 yX1_read yX1_read, Cond.initialized RX1, Cond.code yX1_read cX1_read 10 (some .int), Cond.fieldLink RX1 12 "NeighborBook$FrameReader" "contents" "LNeighborBook$Contents;", Cond.methodLink RX1 22 yX0_clear, Cond.instanceMethod yX0_clear, Cond.selects RX0 yX0_clear yX0_clear]
def wsX6_hear_r2 : List Cond := [Cond.initialized RX0, Cond.code yX0_clear cX0_clear 1 none, Cond.fieldLink RX0 9 "NeighborBook$Contents" "sizes" "[I", Cond.methodLink RX0 26 yJ7_fill_53178, Cond.static yJ7_fill_53178, Cond.initialized RJ7, Cond.code yJ7_fill_53178 cJ7_fill_53178 4 none, Cond.methodLink RX1 25 yX1_pairAt, Cond.static yX1_pairAt, Cond.code yX1_pairAt cX1_pairAt 2 (some .int), Cond.methodLink RX1 29 yX1_faultOfPart, Cond.instanceMethod yX1_faultOfPart, Cond.selects RX1 yX1_faultOfPart yX1_faultOfPart, Cond.code yX1_faultOfPart cX1_faultOfPart 5 (some .int), Cond.methodLink RX1 37 yX1_isOutOfOrder, Cond.static yX1_isOutOfOrder, Cond.code yX1_isOutOfOrder cX1_isOutOfOrder 2 (some .boolean), Cond.methodLink RX1 41 yX1_isWrongSize, Cond.static yX1_isWrongSize, Cond.code yX1_isWrongSize cX1_isWrongSize 2 (some .boolean), Cond.static yX6_isMore, Cond.code yX6_isMore cX6_isMore 1 (some .boolean), Cond.methodLink RX1 48 yX0_has, Cond.instanceMethod yX0_has]
def wsX6_hear_r3 : List Cond := [Cond.selects RX0 yX0_has yX0_has, Cond.code yX0_has cX0_has 2 (some .boolean), Cond.methodLink RX0 48 yX0_sizeOf, Cond.instanceMethod yX0_sizeOf, Cond.selects RX0 yX0_sizeOf yX0_sizeOf, Cond.code yX0_sizeOf cX0_sizeOf 2 (some .int), Cond.methodLink RX1 33 yX1_takePart, Cond.instanceMethod yX1_takePart, Cond.selects RX1 yX1_takePart yX1_takePart, Cond.code yX1_takePart cX1_takePart 5 none, Cond.fieldLink RX1 18 "NeighborBook$FrameReader" "held" "I", Cond.methodLink RX1 51 yX0_keep, Cond.instanceMethod yX0_keep, Cond.selects RX0 yX0_keep yX0_keep, Cond.code yX0_keep cX0_keep 5 none, Cond.fieldLink RX0 15 "NeighborBook$Contents" "bytes" "[B", Cond.methodLink RX0 39 arraycopyName, Cond.native arraycopyName, Cond.static arraycopyName, Cond.initialized "java/lang/System", Cond.methodLink RX0 32 yX0_isKept, Cond.static yX0_isKept, Cond.code yX0_isKept cX0_isKept 1 (some .boolean), Cond.methodLink RX0 35 yX0_startOf]
def wsX6_hear_r4 : List Cond := [Cond.static yX0_startOf, Cond.code yX0_startOf cX0_startOf 1 (some .int), Cond.methodLink RX6 104 yX6_learn, Cond.instanceMethod yX6_learn, Cond.selects RX6 yX6_learn yX6_learn, Cond.code yX6_learn cX6_learn 4 (some .int), Cond.fieldLink RX6 29 "NeighborBook" "known" "LNeighborBook$Neighbors;", Cond.fieldLink RX6 54 "NeighborBook" "quick" "I", Cond.methodLink RX6 191 yX1_contents, Cond.instanceMethod yX1_contents, Cond.selects RX1 yX1_contents yX1_contents, Cond.code yX1_contents cX1_contents 1 (some (.object "NeighborBook$Contents")), Cond.methodLink RX6 170 yX3_find, Cond.instanceMethod yX3_find, Cond.selects RX3 yX3_find yX3_find, Cond.initialized RX3, Cond.code yX3_find cX3_find 4 (some .int), Cond.fieldLink RX3 18 "NeighborBook$Neighbors" "size" "I", Cond.fieldLink RX3 11 "NeighborBook$Neighbors" "rows" "[LNeighborBook$Neighbor;", Cond.methodLink RX3 22 yX2_portOf, Cond.instanceMethod yX2_portOf, Cond.selects RX2 yX2_portOf yX2_portOf, Cond.initialized RX2, Cond.code yX2_portOf cX2_portOf 1 (some .int)]
def wsX6_hear_r5 : List Cond := [Cond.fieldLink RX2 18 "NeighborBook$Neighbor" "port" "I", Cond.methodLink RX3 26 yX2_contents, Cond.instanceMethod yX2_contents, Cond.selects RX2 yX2_contents yX2_contents, Cond.code yX2_contents cX2_contents 1 (some (.object "NeighborBook$Contents")), Cond.fieldLink RX2 12 "NeighborBook$Neighbor" "contents" "LNeighborBook$Contents;", Cond.methodLink RX3 30 yX0_isSameStation, Cond.instanceMethod yX0_isSameStation, Cond.selects RX0 yX0_isSameStation yX0_isSameStation, Cond.code yX0_isSameStation cX0_isSameStation 2 (some .boolean), Cond.methodLink RX0 51 yX0_isSame, Cond.instanceMethod yX0_isSame, Cond.selects RX0 yX0_isSame yX0_isSame, Cond.code yX0_isSame cX0_isSame 7 (some .boolean), Cond.methodLink RX6 192 yX1_held, Cond.instanceMethod yX1_held, Cond.selects RX1 yX1_held yX1_held, Cond.code yX1_held cX1_held 1 (some .int), Cond.methodLink RX6 195 yX3_forget, Cond.instanceMethod yX3_forget, Cond.selects RX3 yX3_forget yX3_forget, Cond.code yX3_forget cX3_forget 4 none, Cond.methodLink RX3 40 yX3_has, Cond.instanceMethod yX3_has]
def wsX6_hear_r6 : List Cond := [Cond.selects RX3 yX3_has yX3_has, Cond.code yX3_has cX3_has 2 (some .boolean), Cond.methodLink RX6 198 yX3_add, Cond.instanceMethod yX3_add, Cond.selects RX3 yX3_add yX3_add, Cond.code yX3_add cX3_add 3 (some .int), Cond.methodLink RX3 36 yX2_begin, Cond.instanceMethod yX2_begin, Cond.selects RX2 yX2_begin yX2_begin, Cond.code yX2_begin cX2_begin 2 none, Cond.fieldLink RX2 22 "NeighborBook$Neighbor" "frames" "I", Cond.methodLink RX6 201 yX4_greet, Cond.instanceMethod yX4_greet, Cond.selects RX4 yX4_greet yX4_greet, Cond.code yX4_greet cX4_greet 2 none, Cond.fieldLink RX4 15 "NeighborBook$Port" "quickLeft" "I", Cond.methodLink RX4 25 Lib.Math.max.name, Cond.static Lib.Math.max.name, Cond.initialized "java/lang/Math", Cond.code Lib.Math.max.name Lib.Math.max.code 2 (some .int), Cond.fieldLink RX4 19 "NeighborBook$Port" "waitLeft" "I", Cond.methodLink RX6 153 yX3_at, Cond.instanceMethod yX3_at, Cond.selects RX3 yX3_at yX3_at]
def wsX6_hear_r7 : List Cond := [Cond.code yX3_at cX3_at 2 (some (.object "NeighborBook$Neighbor")), Cond.methodLink RX6 204 yX2_renew, Cond.instanceMethod yX2_renew, Cond.selects RX2 yX2_renew yX2_renew, Cond.code yX2_renew cX2_renew 4 (some (.object "NeighborBook$Contents")), Cond.fieldLink RX2 25 "NeighborBook$Neighbor" "ticksLeft" "I", Cond.methodLink RX6 208 yX1_useNext, Cond.instanceMethod yX1_useNext, Cond.selects RX1 yX1_useNext yX1_useNext, Cond.code yX1_useNext cX1_useNext 2 none, Cond.methodLink RX6 108 yX4_noteHeard, Cond.instanceMethod yX4_noteHeard, Cond.selects RX4 yX4_noteHeard yX4_noteHeard, Cond.code yX4_noteHeard cX4_noteHeard 2 none, Cond.fieldLink RX4 31 "NeighborBook$Port" "heardWell" "I", Cond.fieldLink RX4 34 "NeighborBook$Port" "heardFaulty" "I"]
def wsX6_hear : List Cond := .code yX6_hear cX6_hear 3 (some .int) :: ((wsX6_hear_r1 ++ (wsX6_hear_r2 ++ (wsX6_hear_r3 ++ (wsX6_hear_r4 ++ (wsX6_hear_r5 ++ (wsX6_hear_r6 ++ wsX6_hear_r7)))))) ++ wsX60 ++ wsX40 ++ wsX10 ++ wsX00 ++ wsX30 ++ wsX20)
def wsX6_tick_r1 : List Cond := [Cond.fieldLink RX6 115 "NeighborBook" "ticks" "I", Cond.constant RX6 118 (2147483647), Cond.fieldLink RX6 29 "NeighborBook" "known" "LNeighborBook$Neighbors;", Cond.fieldLink RX6 22 "NeighborBook" "ports" "[LNeighborBook$Port;", Cond.fieldLink RX6 47 "NeighborBook" "interval" "I", Cond.fieldLink RX6 43 "NeighborBook" "latest" "LNeighborBook$SentFrame;", Cond.fieldLink RX6 16 "NeighborBook" "told" "LNeighborBook$Contents;", Cond.fieldLink RX6 51 "NeighborBook" "hold" "I", Cond.constant RX6 124 (65535), Cond.methodLink RX6 125 Lib.Math.min.name, Cond.static Lib.Math.min.name, Cond.initialized "java/lang/Math", Cond.code Lib.Math.min.name Lib.Math.min.code 2 (some .int), Cond.methodLink RX6 119 yX3_passTick, Cond.instanceMethod yX3_passTick, Cond.selects RX3 yX3_passTick yX3_passTick, Cond.initialized RX3, Cond.code yX3_passTick cX3_passTick 2 none, Cond.fieldLink RX3 18 "NeighborBook$Neighbors" "size" "I", Cond.fieldLink RX3 11 "NeighborBook$Neighbors" "rows" "[LNeighborBook$Neighbor;", Cond.methodLink RX3 47 yX2_passTick, Cond.instanceMethod yX2_passTick, Cond.selects RX2 yX2_passTick yX2_passTick, Cond.initialized RX2]
def wsX6_tick_r2 : List Cond := [Cond.code yX2_passTick cX2_passTick 1 (some .boolean), Cond.fieldLink RX2 25 "NeighborBook$Neighbor" "ticksLeft" "I", Cond.methodLink RX3 44 yX3_forget, Cond.instanceMethod yX3_forget, Cond.selects RX3 yX3_forget yX3_forget, Cond.code yX3_forget cX3_forget 4 none, Cond.methodLink RX3 40 yX3_has, Cond.instanceMethod yX3_has, Cond.selects RX3 yX3_has yX3_has, Cond.code yX3_has cX3_has 2 (some .boolean), Cond.methodLink RX6 122 yX4_passTick, Cond.instanceMethod yX4_passTick, Cond.selects RX4 yX4_passTick yX4_passTick, Cond.initialized RX4, Cond.code yX4_passTick cX4_passTick 2 (some .boolean), Cond.fieldLink RX4 9 "NeighborBook$Port" "up" "Z", Cond.fieldLink RX4 19 "NeighborBook$Port" "waitLeft" "I", Cond.fieldLink RX4 22 "NeighborBook$Port" "framesSent" "I", Cond.fieldLink RX4 15 "NeighborBook$Port" "quickLeft" "I", Cond.methodLink RX6 93 yX5_write, Cond.instanceMethod yX5_write, Cond.selects RX5 yX5_write yX5_write, Cond.initialized RX5, Cond.code yX5_write cX5_write 5 none]
def wsX6_tick_r3 : List Cond := [Cond.fieldLink RX5 15 "NeighborBook$SentFrame" "port" "I", Cond.fieldLink RX5 19 "NeighborBook$SentFrame" "length" "I", Cond.methodLink RX5 22 yX0_sizeOf, Cond.instanceMethod yX0_sizeOf, Cond.selects RX0 yX0_sizeOf yX0_sizeOf, Cond.initialized RX0, Cond.code yX0_sizeOf cX0_sizeOf 2 (some .int), Cond.fieldLink RX0 9 "NeighborBook$Contents" "sizes" "[I", Cond.methodLink RX5 28 yX5_putHead, Cond.instanceMethod yX5_putHead, Cond.selects RX5 yX5_putHead yX5_putHead, Cond.code yX5_putHead cX5_putHead 4 none, Cond.methodLink RX5 36 yX5_putByte, Cond.instanceMethod yX5_putByte, Cond.selects RX5 yX5_putByte yX5_putByte, Cond.code yX5_putByte cX5_putByte 2 none, Cond.fieldLink RX5 9 "NeighborBook$SentFrame" "bytes" "[B", Cond.methodLink RX5 32 yX5_putContent, Cond.instanceMethod yX5_putContent, Cond.selects RX5 yX5_putContent yX5_putContent, Cond.code yX5_putContent cX5_putContent 5 none, Cond.methodLink RX5 44 yX0_byteAt, Cond.instanceMethod yX0_byteAt, Cond.selects RX0 yX0_byteAt yX0_byteAt]
def wsX6_tick_r4 : List Cond := [Cond.code yX0_byteAt cX0_byteAt 3 (some .int), Cond.fieldLink RX0 15 "NeighborBook$Contents" "bytes" "[B", Cond.methodLink RX0 48 yX0_sizeOf, Cond.methodLink RX0 35 yX0_startOf, Cond.static yX0_startOf, Cond.code yX0_startOf cX0_startOf 1 (some .int), Cond.methodLink RX5 40 yX0_has, Cond.instanceMethod yX0_has, Cond.selects RX0 yX0_has yX0_has, Cond.code yX0_has cX0_has 2 (some .boolean)]
def wsX6_tick : List Cond := .code yX6_tick cX6_tick 6 (some .int) :: ((wsX6_tick_r1 ++ (wsX6_tick_r2 ++ (wsX6_tick_r3 ++ wsX6_tick_r4))) ++ wsX60 ++ wsX30 ++ wsX20 ++ wsX40 ++ wsX50 ++ wsX00)
def wsX6_about_r1 : List Cond := [Cond.fieldLink RX6 29 "NeighborBook" "known" "LNeighborBook$Neighbors;", Cond.fieldLink RX6 22 "NeighborBook" "ports" "[LNeighborBook$Port;", Cond.methodLink RX6 79 yX6_isPort, Cond.static yX6_isPort, Cond.initialized RX6, Cond.code yX6_isPort cX6_isPort 1 (some .boolean), Cond.methodLink RX6 131 yX3_sizeAt, Cond.instanceMethod yX3_sizeAt, Cond.selects RX3 yX3_sizeAt yX3_sizeAt, Cond.initialized RX3, Cond.code yX3_sizeAt cX3_sizeAt 4 (some .int), Cond.fieldLink RX3 18 "NeighborBook$Neighbors" "size" "I", Cond.fieldLink RX3 11 "NeighborBook$Neighbors" "rows" "[LNeighborBook$Neighbor;", Cond.methodLink RX3 22 yX2_portOf, Cond.instanceMethod yX2_portOf, Cond.selects RX2 yX2_portOf yX2_portOf, Cond.initialized RX2, Cond.code yX2_portOf cX2_portOf 1 (some .int), Cond.fieldLink RX2 18 "NeighborBook$Neighbor" "port" "I", Cond.methodLink RX6 134 yX4_tellAbout, Cond.instanceMethod yX4_tellAbout, Cond.selects RX4 yX4_tellAbout yX4_tellAbout, Cond.initialized RX4, Cond.code yX4_tellAbout cX4_tellAbout 2 (some .int)]
def wsX6_about_r2 : List Cond := [Cond.fieldLink RX4 9 "NeighborBook$Port" "up" "Z", Cond.fieldLink RX4 22 "NeighborBook$Port" "framesSent" "I", Cond.fieldLink RX4 31 "NeighborBook$Port" "heardWell" "I", Cond.fieldLink RX4 34 "NeighborBook$Port" "heardFaulty" "I", Cond.fieldLink RX4 19 "NeighborBook$Port" "waitLeft" "I", Cond.fieldLink RX4 15 "NeighborBook$Port" "quickLeft" "I"]
def wsX6_about : List Cond := .code yX6_about cX6_about 3 (some .int) :: ((wsX6_about_r1 ++ wsX6_about_r2) ++ wsX60 ++ wsX30 ++ wsX20 ++ wsX40)
def wsX6_count : List Cond := .code yX6_count cX6_count 2 (some .int) :: ([.fieldLink RX6 29 "NeighborBook" "known" "LNeighborBook$Neighbors;", .fieldLink RX6 115 "NeighborBook" "ticks" "I", .fieldLink RX6 112 "NeighborBook" "latestFault" "I", .fieldLink RX6 65 "NeighborBook" "typedCount" "I", .fieldLink RX6 43 "NeighborBook" "latest" "LNeighborBook$SentFrame;", .methodLink RX6 137 yX3_size, .instanceMethod yX3_size, .selects RX3 yX3_size yX3_size, .initialized RX3, .code yX3_size cX3_size 1 (some .int), .fieldLink RX3 18 "NeighborBook$Neighbors" "size" "I", .methodLink RX6 141 yX5_portOf, .instanceMethod yX5_portOf, .selects RX5 yX5_portOf yX5_portOf, .initialized RX5, .code yX5_portOf cX5_portOf 1 (some .int), .fieldLink RX5 15 "NeighborBook$SentFrame" "port" "I", .methodLink RX6 144 yX5_length, .instanceMethod yX5_length, .selects RX5 yX5_length yX5_length, .code yX5_length cX5_length 1 (some .int), .fieldLink RX5 19 "NeighborBook$SentFrame" "length" "I"] ++ wsX60 ++ wsX30 ++ wsX50)
def wsX6_sent : List Cond := .code yX6_sent cX6_sent 2 (some .int) :: ([.fieldLink RX6 43 "NeighborBook" "latest" "LNeighborBook$SentFrame;", .methodLink RX6 147 yX5_byteAt, .instanceMethod yX5_byteAt, .selects RX5 yX5_byteAt yX5_byteAt, .initialized RX5, .code yX5_byteAt cX5_byteAt 2 (some .int), .fieldLink RX5 19 "NeighborBook$SentFrame" "length" "I", .fieldLink RX5 9 "NeighborBook$SentFrame" "bytes" "[B"] ++ wsX60 ++ wsX50)
def wsX6_neighbor_r1 : List Cond := [Cond.fieldLink RX6 29 "NeighborBook" "known" "LNeighborBook$Neighbors;", Cond.methodLink RX6 150 yX3_has, Cond.instanceMethod yX3_has, Cond.selects RX3 yX3_has yX3_has, Cond.initialized RX3, Cond.code yX3_has cX3_has 2 (some .boolean), Cond.fieldLink RX3 18 "NeighborBook$Neighbors" "size" "I", Cond.methodLink RX6 153 yX3_at, Cond.instanceMethod yX3_at, Cond.selects RX3 yX3_at yX3_at, Cond.code yX3_at cX3_at 2 (some (.object "NeighborBook$Neighbor")), Cond.fieldLink RX3 11 "NeighborBook$Neighbors" "rows" "[LNeighborBook$Neighbor;", Cond.methodLink RX6 157 yX2_tellAbout, Cond.instanceMethod yX2_tellAbout, Cond.selects RX2 yX2_tellAbout yX2_tellAbout, Cond.initialized RX2, Cond.code yX2_tellAbout cX2_tellAbout 2 (some .int), Cond.fieldLink RX2 18 "NeighborBook$Neighbor" "port" "I", Cond.fieldLink RX2 25 "NeighborBook$Neighbor" "ticksLeft" "I", Cond.fieldLink RX2 22 "NeighborBook$Neighbor" "frames" "I", Cond.fieldLink RX2 12 "NeighborBook$Neighbor" "contents" "LNeighborBook$Contents;", Cond.methodLink RX2 28 yX0_typeBits, Cond.instanceMethod yX0_typeBits, Cond.selects RX0 yX0_typeBits yX0_typeBits]
def wsX6_neighbor_r2 : List Cond := [Cond.initialized RX0, Cond.code yX0_typeBits cX0_typeBits 3 (some .int), Cond.methodLink RX0 45 yX0_has, Cond.instanceMethod yX0_has, Cond.selects RX0 yX0_has yX0_has, Cond.code yX0_has cX0_has 2 (some .boolean), Cond.methodLink RX0 48 yX0_sizeOf, Cond.instanceMethod yX0_sizeOf, Cond.selects RX0 yX0_sizeOf yX0_sizeOf, Cond.code yX0_sizeOf cX0_sizeOf 2 (some .int), Cond.fieldLink RX0 9 "NeighborBook$Contents" "sizes" "[I"]
def wsX6_neighbor : List Cond := .code yX6_neighbor cX6_neighbor 3 (some .int) :: ((wsX6_neighbor_r1 ++ wsX6_neighbor_r2) ++ wsX60 ++ wsX30 ++ wsX20 ++ wsX00)
def wsX6_content_r1 : List Cond := [Cond.fieldLink RX6 29 "NeighborBook" "known" "LNeighborBook$Neighbors;", Cond.methodLink RX6 150 yX3_has, Cond.instanceMethod yX3_has, Cond.selects RX3 yX3_has yX3_has, Cond.initialized RX3, Cond.code yX3_has cX3_has 2 (some .boolean), Cond.fieldLink RX3 18 "NeighborBook$Neighbors" "size" "I", Cond.methodLink RX6 153 yX3_at, Cond.instanceMethod yX3_at, Cond.selects RX3 yX3_at yX3_at, Cond.code yX3_at cX3_at 2 (some (.object "NeighborBook$Neighbor")), Cond.fieldLink RX3 11 "NeighborBook$Neighbors" "rows" "[LNeighborBook$Neighbor;", Cond.methodLink RX6 160 yX2_contents, Cond.instanceMethod yX2_contents, Cond.selects RX2 yX2_contents yX2_contents, Cond.initialized RX2, Cond.code yX2_contents cX2_contents 1 (some (.object "NeighborBook$Contents")), Cond.fieldLink RX2 12 "NeighborBook$Neighbor" "contents" "LNeighborBook$Contents;", Cond.methodLink RX6 164 yX0_sizeOf, Cond.instanceMethod yX0_sizeOf, Cond.selects RX0 yX0_sizeOf yX0_sizeOf, Cond.initialized RX0, Cond.code yX0_sizeOf cX0_sizeOf 2 (some .int), Cond.fieldLink RX0 9 "NeighborBook$Contents" "sizes" "[I"]
def wsX6_content_r2 : List Cond := [Cond.methodLink RX6 167 yX0_byteAt, Cond.instanceMethod yX0_byteAt, Cond.selects RX0 yX0_byteAt yX0_byteAt, Cond.code yX0_byteAt cX0_byteAt 3 (some .int), Cond.fieldLink RX0 15 "NeighborBook$Contents" "bytes" "[B", Cond.methodLink RX0 48 yX0_sizeOf, Cond.methodLink RX0 35 yX0_startOf, Cond.static yX0_startOf, Cond.code yX0_startOf cX0_startOf 1 (some .int)]
def wsX6_content : List Cond := .code yX6_content cX6_content 5 (some .int) :: ((wsX6_content_r1 ++ wsX6_content_r2) ++ wsX60 ++ wsX30 ++ wsX20 ++ wsX00)
def wsX6_check_r1 : List Cond := [Cond.fieldLink RX6 29 "NeighborBook" "known" "LNeighborBook$Neighbors;", Cond.fieldLink RX6 22 "NeighborBook" "ports" "[LNeighborBook$Port;", Cond.methodLink RX6 137 yX3_size, Cond.instanceMethod yX3_size, Cond.selects RX3 yX3_size yX3_size, Cond.initialized RX3, Cond.code yX3_size cX3_size 1 (some .int), Cond.fieldLink RX3 18 "NeighborBook$Neighbors" "size" "I", Cond.methodLink RX6 153 yX3_at, Cond.instanceMethod yX3_at, Cond.selects RX3 yX3_at yX3_at, Cond.code yX3_at cX3_at 2 (some (.object "NeighborBook$Neighbor")), Cond.fieldLink RX3 11 "NeighborBook$Neighbors" "rows" "[LNeighborBook$Neighbor;", Cond.methodLink RX6 169 yX2_portOf, Cond.instanceMethod yX2_portOf, Cond.selects RX2 yX2_portOf yX2_portOf, Cond.initialized RX2, Cond.code yX2_portOf cX2_portOf 1 (some .int), Cond.fieldLink RX2 18 "NeighborBook$Neighbor" "port" "I", Cond.methodLink RX6 79 yX6_isPort, Cond.static yX6_isPort, Cond.initialized RX6, Cond.code yX6_isPort cX6_isPort 1 (some .boolean), Cond.methodLink RX6 83 yX4_isUp]
def wsX6_check_r2 : List Cond := [Cond.instanceMethod yX4_isUp, Cond.selects RX4 yX4_isUp yX4_isUp, Cond.initialized RX4, Cond.code yX4_isUp cX4_isUp 1 (some .boolean), Cond.fieldLink RX4 9 "NeighborBook$Port" "up" "Z", Cond.methodLink RX6 160 yX2_contents, Cond.instanceMethod yX2_contents, Cond.selects RX2 yX2_contents yX2_contents, Cond.code yX2_contents cX2_contents 1 (some (.object "NeighborBook$Contents")), Cond.fieldLink RX2 12 "NeighborBook$Neighbor" "contents" "LNeighborBook$Contents;", Cond.methodLink RX6 170 yX3_find, Cond.instanceMethod yX3_find, Cond.selects RX3 yX3_find yX3_find, Cond.code yX3_find cX3_find 4 (some .int), Cond.methodLink RX3 22 yX2_portOf, Cond.methodLink RX3 26 yX2_contents, Cond.methodLink RX3 30 yX0_isSameStation, Cond.instanceMethod yX0_isSameStation, Cond.selects RX0 yX0_isSameStation yX0_isSameStation, Cond.initialized RX0, Cond.code yX0_isSameStation cX0_isSameStation 2 (some .boolean), Cond.fieldLink RX0 15 "NeighborBook$Contents" "bytes" "[B", Cond.methodLink RX0 35 yX0_startOf, Cond.static yX0_startOf]
def wsX6_check_r3 : List Cond := [Cond.code yX0_startOf cX0_startOf 1 (some .int), Cond.methodLink RX0 48 yX0_sizeOf, Cond.instanceMethod yX0_sizeOf, Cond.selects RX0 yX0_sizeOf yX0_sizeOf, Cond.code yX0_sizeOf cX0_sizeOf 2 (some .int), Cond.fieldLink RX0 9 "NeighborBook$Contents" "sizes" "[I", Cond.methodLink RX0 51 yX0_isSame, Cond.instanceMethod yX0_isSame, Cond.selects RX0 yX0_isSame yX0_isSame, Cond.code yX0_isSame cX0_isSame 7 (some .boolean)]
def wsX6_check : List Cond := .code yX6_check cX6_check 3 (some .int) :: ((wsX6_check_r1 ++ (wsX6_check_r2 ++ wsX6_check_r3)) ++ wsX60 ++ wsX30 ++ wsX20 ++ wsX40 ++ wsX00)
def wsX7_init_r1 : List Cond := [Cond.methodLink RX7 1 objectInit, Cond.instanceMethod objectInit, Cond.code objectInit ⟨#[0xb1]⟩ 1 none, Cond.arrayClass .byte, Cond.fieldLink RX7 7 "NeighborBookModel" "typed" "[B", Cond.fieldLink RX7 13 "NeighborBookModel" "own" "[B", Cond.arrayClass .int, Cond.fieldLink RX7 16 "NeighborBookModel" "ownSizes" "[I", Cond.fieldLink RX7 20 "NeighborBookModel" "interval" "I", Cond.fieldLink RX7 24 "NeighborBookModel" "hold" "I", Cond.fieldLink RX7 27 "NeighborBookModel" "quick" "I", Cond.arrayClass .boolean, Cond.fieldLink RX7 30 "NeighborBookModel" "up" "[Z", Cond.fieldLink RX7 34 "NeighborBookModel" "sentFrames" "[I", Cond.fieldLink RX7 37 "NeighborBookModel" "good" "[I", Cond.fieldLink RX7 40 "NeighborBookModel" "bad" "[I", Cond.fieldLink RX7 43 "NeighborBookModel" "waits" "[I", Cond.fieldLink RX7 46 "NeighborBookModel" "quicks" "[I", Cond.fieldLink RX7 49 "NeighborBookModel" "ports" "[I", Cond.fieldLink RX7 52 "NeighborBookModel" "left" "[I", Cond.fieldLink RX7 55 "NeighborBookModel" "frames" "[I", Cond.fieldLink RX7 58 "NeighborBookModel" "bytes" "[B", Cond.fieldLink RX7 61 "NeighborBookModel" "sizes" "[I", Cond.fieldLink RX7 64 "NeighborBookModel" "page" "[B"]
def wsX7_init_r2 : List Cond := [Cond.fieldLink RX7 67 "NeighborBookModel" "pagePort" "I"]
def wsX7_init : List Cond := .code yX7_init cX7_init 2 none :: ((wsX7_init_r1 ++ wsX7_init_r2) ++ wsX70)
def wsX7_isMore : List Cond := .code yX7_isMore cX7_isMore 1 (some .boolean) :: ([])
def wsX7_type : List Cond := .code yX7_type cX7_type 5 (some .int) :: ([.fieldLink RX7 70 "NeighborBookModel" "typedSize" "I", .fieldLink RX7 7 "NeighborBookModel" "typed" "[B"] ++ wsX70)
def wsX7_tell : List Cond := .code yX7_tell cX7_tell 4 (some .int) :: ([.fieldLink RX7 70 "NeighborBookModel" "typedSize" "I", .fieldLink RX7 13 "NeighborBookModel" "own" "[B", .fieldLink RX7 7 "NeighborBookModel" "typed" "[B", .fieldLink RX7 16 "NeighborBookModel" "ownSizes" "[I", .fieldLink RX7 43 "NeighborBookModel" "waits" "[I", .fieldLink RX7 30 "NeighborBookModel" "up" "[Z", .methodLink RX7 73 yX7_isMore, .static yX7_isMore, .initialized RX7, .code yX7_isMore cX7_isMore 1 (some .boolean)] ++ wsX70)
def wsX7_set : List Cond := .code yX7_set cX7_set 5 (some .int) :: ([.fieldLink RX7 20 "NeighborBookModel" "interval" "I", .fieldLink RX7 24 "NeighborBookModel" "hold" "I", .fieldLink RX7 27 "NeighborBookModel" "quick" "I"] ++ wsX70)
def wsX7_put : List Cond := .code yX7_put cX7_put 2 none :: ([.fieldLink RX7 64 "NeighborBookModel" "page" "[B", .fieldLink RX7 77 "NeighborBookModel" "pageSize" "I"] ++ wsX70)
def wsX7_head : List Cond := .code yX7_head cX7_head 3 none :: ([.methodLink RX7 80 yX7_put, .instanceMethod yX7_put, .selects RX7 yX7_put yX7_put, .initialized RX7, .code yX7_put cX7_put 2 none, .fieldLink RX7 64 "NeighborBookModel" "page" "[B", .fieldLink RX7 77 "NeighborBookModel" "pageSize" "I"] ++ wsX70)
def wsX7_send : List Cond := .code yX7_send cX7_send 5 none :: ([.fieldLink RX7 77 "NeighborBookModel" "pageSize" "I", .fieldLink RX7 67 "NeighborBookModel" "pagePort" "I", .fieldLink RX7 16 "NeighborBookModel" "ownSizes" "[I", .fieldLink RX7 13 "NeighborBookModel" "own" "[B", .fieldLink RX7 34 "NeighborBookModel" "sentFrames" "[I", .methodLink RX7 84 yX7_head, .instanceMethod yX7_head, .selects RX7 yX7_head yX7_head, .initialized RX7, .code yX7_head cX7_head 3 none, .methodLink RX7 80 yX7_put, .instanceMethod yX7_put, .selects RX7 yX7_put yX7_put, .code yX7_put cX7_put 2 none, .fieldLink RX7 64 "NeighborBookModel" "page" "[B"] ++ wsX70)
def wsX7_move : List Cond := .code yX7_move cX7_move 5 none :: ([.fieldLink RX7 49 "NeighborBookModel" "ports" "[I", .fieldLink RX7 52 "NeighborBookModel" "left" "[I", .fieldLink RX7 55 "NeighborBookModel" "frames" "[I", .fieldLink RX7 61 "NeighborBookModel" "sizes" "[I", .fieldLink RX7 58 "NeighborBookModel" "bytes" "[B"] ++ wsX70)
def wsX7_forget : List Cond := .code yX7_forget cX7_forget 3 none :: ([.fieldLink RX7 91 "NeighborBookModel" "known" "I", .methodLink RX7 97 yX7_move, .instanceMethod yX7_move, .selects RX7 yX7_move yX7_move, .initialized RX7, .code yX7_move cX7_move 5 none, .fieldLink RX7 49 "NeighborBookModel" "ports" "[I", .fieldLink RX7 52 "NeighborBookModel" "left" "[I", .fieldLink RX7 55 "NeighborBookModel" "frames" "[I", .fieldLink RX7 61 "NeighborBookModel" "sizes" "[I", .fieldLink RX7 58 "NeighborBookModel" "bytes" "[B"] ++ wsX70)
def wsX7_port_r1 : List Cond := [Cond.fieldLink RX7 30 "NeighborBookModel" "up" "[Z", Cond.fieldLink RX7 43 "NeighborBookModel" "waits" "[I", Cond.fieldLink RX7 46 "NeighborBookModel" "quicks" "[I", Cond.fieldLink RX7 27 "NeighborBookModel" "quick" "I", Cond.fieldLink RX7 91 "NeighborBookModel" "known" "I", Cond.fieldLink RX7 49 "NeighborBookModel" "ports" "[I", Cond.methodLink RX7 88 yX7_send, Cond.instanceMethod yX7_send, Cond.selects RX7 yX7_send yX7_send, Cond.initialized RX7, Cond.code yX7_send cX7_send 5 none, Cond.fieldLink RX7 77 "NeighborBookModel" "pageSize" "I", Cond.fieldLink RX7 67 "NeighborBookModel" "pagePort" "I", Cond.fieldLink RX7 16 "NeighborBookModel" "ownSizes" "[I", Cond.fieldLink RX7 13 "NeighborBookModel" "own" "[B", Cond.fieldLink RX7 34 "NeighborBookModel" "sentFrames" "[I", Cond.methodLink RX7 84 yX7_head, Cond.instanceMethod yX7_head, Cond.selects RX7 yX7_head yX7_head, Cond.code yX7_head cX7_head 3 none, Cond.methodLink RX7 80 yX7_put, Cond.instanceMethod yX7_put, Cond.selects RX7 yX7_put yX7_put, Cond.code yX7_put cX7_put 2 none]
def wsX7_port_r2 : List Cond := [Cond.fieldLink RX7 64 "NeighborBookModel" "page" "[B", Cond.methodLink RX7 94 yX7_forget, Cond.instanceMethod yX7_forget, Cond.selects RX7 yX7_forget yX7_forget, Cond.code yX7_forget cX7_forget 3 none, Cond.methodLink RX7 97 yX7_move, Cond.instanceMethod yX7_move, Cond.selects RX7 yX7_move yX7_move, Cond.code yX7_move cX7_move 5 none, Cond.fieldLink RX7 52 "NeighborBookModel" "left" "[I", Cond.fieldLink RX7 55 "NeighborBookModel" "frames" "[I", Cond.fieldLink RX7 61 "NeighborBookModel" "sizes" "[I", Cond.fieldLink RX7 58 "NeighborBookModel" "bytes" "[B"]
def wsX7_port : List Cond := .code yX7_port cX7_port 4 (some .int) :: ((wsX7_port_r1 ++ wsX7_port_r2) ++ wsX70)
def wsX7_isAlike : List Cond := .code yX7_isAlike cX7_isAlike 6 (some .boolean) :: ([.fieldLink RX7 49 "NeighborBookModel" "ports" "[I", .fieldLink RX7 61 "NeighborBookModel" "sizes" "[I", .fieldLink RX7 58 "NeighborBookModel" "bytes" "[B"] ++ wsX70)
def wsX7_parse : List Cond := .code yX7_parse cX7_parse 7 (some .int) :: ([.fieldLink RX7 61 "NeighborBookModel" "sizes" "[I", .fieldLink RX7 70 "NeighborBookModel" "typedSize" "I", .fieldLink RX7 7 "NeighborBookModel" "typed" "[B", .fieldLink RX7 52 "NeighborBookModel" "left" "[I", .fieldLink RX7 58 "NeighborBookModel" "bytes" "[B", .methodLink RX7 73 yX7_isMore, .static yX7_isMore, .initialized RX7, .code yX7_isMore cX7_isMore 1 (some .boolean)] ++ wsX70)
def wsX7_heard_r1 : List Cond := [Cond.fieldLink RX7 49 "NeighborBookModel" "ports" "[I", Cond.fieldLink RX7 91 "NeighborBookModel" "known" "I", Cond.fieldLink RX7 52 "NeighborBookModel" "left" "[I", Cond.fieldLink RX7 55 "NeighborBookModel" "frames" "[I", Cond.fieldLink RX7 46 "NeighborBookModel" "quicks" "[I", Cond.fieldLink RX7 27 "NeighborBookModel" "quick" "I", Cond.fieldLink RX7 43 "NeighborBookModel" "waits" "[I", Cond.methodLink RX7 100 yX7_parse, Cond.instanceMethod yX7_parse, Cond.selects RX7 yX7_parse yX7_parse, Cond.initialized RX7, Cond.code yX7_parse cX7_parse 7 (some .int), Cond.fieldLink RX7 61 "NeighborBookModel" "sizes" "[I", Cond.fieldLink RX7 70 "NeighborBookModel" "typedSize" "I", Cond.fieldLink RX7 7 "NeighborBookModel" "typed" "[B", Cond.fieldLink RX7 58 "NeighborBookModel" "bytes" "[B", Cond.methodLink RX7 73 yX7_isMore, Cond.static yX7_isMore, Cond.code yX7_isMore cX7_isMore 1 (some .boolean), Cond.methodLink RX7 104 yX7_isAlike, Cond.instanceMethod yX7_isAlike, Cond.selects RX7 yX7_isAlike yX7_isAlike, Cond.code yX7_isAlike cX7_isAlike 6 (some .boolean), Cond.methodLink RX7 94 yX7_forget]
def wsX7_heard_r2 : List Cond := [Cond.instanceMethod yX7_forget, Cond.selects RX7 yX7_forget yX7_forget, Cond.code yX7_forget cX7_forget 3 none, Cond.methodLink RX7 97 yX7_move, Cond.instanceMethod yX7_move, Cond.selects RX7 yX7_move yX7_move, Cond.code yX7_move cX7_move 5 none]
def wsX7_heard : List Cond := .code yX7_heard cX7_heard 5 (some .int) :: ((wsX7_heard_r1 ++ wsX7_heard_r2) ++ wsX70)
def wsX7_hear_r1 : List Cond := [Cond.fieldLink RX7 30 "NeighborBookModel" "up" "[Z", Cond.fieldLink RX7 112 "NeighborBookModel" "fault" "I", Cond.fieldLink RX7 70 "NeighborBookModel" "typedSize" "I", Cond.fieldLink RX7 37 "NeighborBookModel" "good" "[I", Cond.fieldLink RX7 40 "NeighborBookModel" "bad" "[I", Cond.methodLink RX7 108 yX7_heard, Cond.instanceMethod yX7_heard, Cond.selects RX7 yX7_heard yX7_heard, Cond.initialized RX7, Cond.code yX7_heard cX7_heard 5 (some .int), Cond.fieldLink RX7 49 "NeighborBookModel" "ports" "[I", Cond.fieldLink RX7 91 "NeighborBookModel" "known" "I", Cond.fieldLink RX7 52 "NeighborBookModel" "left" "[I", Cond.fieldLink RX7 55 "NeighborBookModel" "frames" "[I", Cond.fieldLink RX7 46 "NeighborBookModel" "quicks" "[I", Cond.fieldLink RX7 27 "NeighborBookModel" "quick" "I", Cond.fieldLink RX7 43 "NeighborBookModel" "waits" "[I", Cond.methodLink RX7 100 yX7_parse, Cond.instanceMethod yX7_parse, Cond.selects RX7 yX7_parse yX7_parse, Cond.code yX7_parse cX7_parse 7 (some .int), Cond.fieldLink RX7 61 "NeighborBookModel" "sizes" "[I", Cond.fieldLink RX7 7 "NeighborBookModel" "typed" "[B", Cond.fieldLink RX7 58 "NeighborBookModel" "bytes" "[B"]
def wsX7_hear_r2 : List Cond := [Cond.methodLink RX7 73 yX7_isMore, Cond.static yX7_isMore, Cond.code yX7_isMore cX7_isMore 1 (some .boolean), Cond.methodLink RX7 104 yX7_isAlike, Cond.instanceMethod yX7_isAlike, Cond.selects RX7 yX7_isAlike yX7_isAlike, Cond.code yX7_isAlike cX7_isAlike 6 (some .boolean), Cond.methodLink RX7 94 yX7_forget, Cond.instanceMethod yX7_forget, Cond.selects RX7 yX7_forget yX7_forget, Cond.code yX7_forget cX7_forget 3 none, Cond.methodLink RX7 97 yX7_move, Cond.instanceMethod yX7_move, Cond.selects RX7 yX7_move yX7_move, Cond.code yX7_move cX7_move 5 none]
def wsX7_hear : List Cond := .code yX7_hear cX7_hear 2 (some .int) :: ((wsX7_hear_r1 ++ wsX7_hear_r2) ++ wsX70)
def wsX7_tick_r1 : List Cond := [Cond.fieldLink RX7 115 "NeighborBookModel" "ticks" "I", Cond.constant RX7 118 (2147483647), Cond.fieldLink RX7 91 "NeighborBookModel" "known" "I", Cond.fieldLink RX7 52 "NeighborBookModel" "left" "[I", Cond.fieldLink RX7 30 "NeighborBookModel" "up" "[Z", Cond.fieldLink RX7 43 "NeighborBookModel" "waits" "[I", Cond.fieldLink RX7 20 "NeighborBookModel" "interval" "I", Cond.fieldLink RX7 24 "NeighborBookModel" "hold" "I", Cond.constant RX7 119 (65535), Cond.fieldLink RX7 46 "NeighborBookModel" "quicks" "[I", Cond.methodLink RX7 94 yX7_forget, Cond.instanceMethod yX7_forget, Cond.selects RX7 yX7_forget yX7_forget, Cond.initialized RX7, Cond.code yX7_forget cX7_forget 3 none, Cond.methodLink RX7 97 yX7_move, Cond.instanceMethod yX7_move, Cond.selects RX7 yX7_move yX7_move, Cond.code yX7_move cX7_move 5 none, Cond.fieldLink RX7 49 "NeighborBookModel" "ports" "[I", Cond.fieldLink RX7 55 "NeighborBookModel" "frames" "[I", Cond.fieldLink RX7 61 "NeighborBookModel" "sizes" "[I", Cond.fieldLink RX7 58 "NeighborBookModel" "bytes" "[B", Cond.methodLink RX7 88 yX7_send]
def wsX7_tick_r2 : List Cond := [Cond.instanceMethod yX7_send, Cond.selects RX7 yX7_send yX7_send, Cond.code yX7_send cX7_send 5 none, Cond.fieldLink RX7 77 "NeighborBookModel" "pageSize" "I", Cond.fieldLink RX7 67 "NeighborBookModel" "pagePort" "I", Cond.fieldLink RX7 16 "NeighborBookModel" "ownSizes" "[I", Cond.fieldLink RX7 13 "NeighborBookModel" "own" "[B", Cond.fieldLink RX7 34 "NeighborBookModel" "sentFrames" "[I", Cond.methodLink RX7 84 yX7_head, Cond.instanceMethod yX7_head, Cond.selects RX7 yX7_head yX7_head, Cond.code yX7_head cX7_head 3 none, Cond.methodLink RX7 80 yX7_put, Cond.instanceMethod yX7_put, Cond.selects RX7 yX7_put yX7_put, Cond.code yX7_put cX7_put 2 none, Cond.fieldLink RX7 64 "NeighborBookModel" "page" "[B"]
def wsX7_tick : List Cond := .code yX7_tick cX7_tick 6 (some .int) :: ((wsX7_tick_r1 ++ wsX7_tick_r2) ++ wsX70)
def wsX7_about : List Cond := .code yX7_about cX7_about 5 (some .int) :: ([.fieldLink RX7 91 "NeighborBookModel" "known" "I", .fieldLink RX7 49 "NeighborBookModel" "ports" "[I", .fieldLink RX7 30 "NeighborBookModel" "up" "[Z", .fieldLink RX7 34 "NeighborBookModel" "sentFrames" "[I", .fieldLink RX7 37 "NeighborBookModel" "good" "[I", .fieldLink RX7 40 "NeighborBookModel" "bad" "[I", .fieldLink RX7 43 "NeighborBookModel" "waits" "[I", .fieldLink RX7 46 "NeighborBookModel" "quicks" "[I"] ++ wsX70)
def wsX7_count : List Cond := .code yX7_count cX7_count 2 (some .int) :: ([.fieldLink RX7 91 "NeighborBookModel" "known" "I", .fieldLink RX7 115 "NeighborBookModel" "ticks" "I", .fieldLink RX7 112 "NeighborBookModel" "fault" "I", .fieldLink RX7 70 "NeighborBookModel" "typedSize" "I", .fieldLink RX7 67 "NeighborBookModel" "pagePort" "I", .fieldLink RX7 77 "NeighborBookModel" "pageSize" "I"] ++ wsX70)
def wsX7_sent : List Cond := .code yX7_sent cX7_sent 2 (some .int) :: ([.fieldLink RX7 77 "NeighborBookModel" "pageSize" "I", .fieldLink RX7 64 "NeighborBookModel" "page" "[B"] ++ wsX70)
def wsX7_neighbor : List Cond := .code yX7_neighbor cX7_neighbor 5 (some .int) :: ([.fieldLink RX7 91 "NeighborBookModel" "known" "I", .fieldLink RX7 49 "NeighborBookModel" "ports" "[I", .fieldLink RX7 52 "NeighborBookModel" "left" "[I", .fieldLink RX7 55 "NeighborBookModel" "frames" "[I", .fieldLink RX7 61 "NeighborBookModel" "sizes" "[I"] ++ wsX70)
def wsX7_content : List Cond := .code yX7_content cX7_content 5 (some .int) :: ([.fieldLink RX7 91 "NeighborBookModel" "known" "I", .fieldLink RX7 61 "NeighborBookModel" "sizes" "[I", .fieldLink RX7 58 "NeighborBookModel" "bytes" "[B"] ++ wsX70)
def wsX7_check : List Cond := .code yX7_check cX7_check 4 (some .int) :: ([.fieldLink RX7 91 "NeighborBookModel" "known" "I", .fieldLink RX7 30 "NeighborBookModel" "up" "[Z", .fieldLink RX7 49 "NeighborBookModel" "ports" "[I", .methodLink RX7 104 yX7_isAlike, .instanceMethod yX7_isAlike, .selects RX7 yX7_isAlike yX7_isAlike, .initialized RX7, .code yX7_isAlike cX7_isAlike 6 (some .boolean), .fieldLink RX7 61 "NeighborBookModel" "sizes" "[I", .fieldLink RX7 58 "NeighborBookModel" "bytes" "[B"] ++ wsX70)
def wsJ9_max_7cf53 : List Cond := .code yJ9_max_7cf53 cJ9_max_7cf53 2 (some .int) :: ([])
def wsJ9_min_7cf53 : List Cond := .code yJ9_min_7cf53 cJ9_min_7cf53 2 (some .int) :: ([])
def wsL_law_r1 : List Cond := [Cond.classLink RL 7 RX6, Cond.instantiable RX6 12, Cond.initialized RX6, Cond.classLink RL 10 RX7, Cond.instantiable RX7 24, Cond.initialized RX7, Cond.constantLong RL 13 (4294967295), Cond.methodLink RL 9 yX6_init, Cond.instanceMethod yX6_init, Cond.code yX6_init cX6_init 2 none, Cond.methodLink RX6 1 objectInit, Cond.instanceMethod objectInit, Cond.code objectInit ⟨#[0xb1]⟩ 1 none, Cond.arrayClass .byte, Cond.fieldLink RX6 9 "NeighborBook" "typed" "[B", Cond.classLink RX6 13 RX0, Cond.instantiable RX0 2, Cond.initialized RX0, Cond.fieldLink RX6 16 "NeighborBook" "told" "LNeighborBook$Contents;", Cond.classLink RX6 20 RX4, Cond.fieldLink RX6 22 "NeighborBook" "ports" "[LNeighborBook$Port;", Cond.classLink RX6 26 RX3, Cond.instantiable RX3 2, Cond.initialized RX3]
def wsL_law_r2 : List Cond := [Cond.fieldLink RX6 29 "NeighborBook" "known" "LNeighborBook$Neighbors;", Cond.classLink RX6 33 RX1, Cond.instantiable RX1 2, Cond.initialized RX1, Cond.fieldLink RX6 36 "NeighborBook" "reader" "LNeighborBook$FrameReader;", Cond.classLink RX6 40 RX5, Cond.instantiable RX5 3, Cond.initialized RX5, Cond.fieldLink RX6 43 "NeighborBook" "latest" "LNeighborBook$SentFrame;", Cond.fieldLink RX6 47 "NeighborBook" "interval" "I", Cond.fieldLink RX6 51 "NeighborBook" "hold" "I", Cond.fieldLink RX6 54 "NeighborBook" "quick" "I", Cond.instantiable RX4 6, Cond.initialized RX4, Cond.fieldLink RX6 58 "NeighborBook" "FIRST_NAME" "[B", Cond.methodLink RX6 15 yX0_init, Cond.instanceMethod yX0_init, Cond.code yX0_init cX0_init 1 none, Cond.methodLink RX0 3 objectInit, Cond.arrayClass .int, Cond.fieldLink RX0 9 "NeighborBook$Contents" "sizes" "[I", Cond.fieldLink RX0 15 "NeighborBook$Contents" "bytes" "[B", Cond.methodLink RX0 19 yX0_clear, Cond.instanceMethod yX0_clear]
def wsL_law_r3 : List Cond := [Cond.selects RX0 yX0_clear yX0_clear, Cond.code yX0_clear cX0_clear 1 none, Cond.methodLink RX0 26 yJ7_fill_53178, Cond.static yJ7_fill_53178, Cond.initialized RJ7, Cond.code yJ7_fill_53178 cJ7_fill_53178 4 none, Cond.methodLink RX6 28 yX3_init, Cond.instanceMethod yX3_init, Cond.code yX3_init cX3_init 2 none, Cond.methodLink RX3 3 objectInit, Cond.classLink RX3 9 RX2, Cond.fieldLink RX3 11 "NeighborBook$Neighbors" "rows" "[LNeighborBook$Neighbor;", Cond.instantiable RX2 4, Cond.initialized RX2, Cond.instanceMethod yX2_init, Cond.code yX2_init cX2_init 1 none, Cond.methodLink RX2 3 objectInit, Cond.classLink RX2 9 RX0, Cond.fieldLink RX2 12 "NeighborBook$Neighbor" "contents" "LNeighborBook$Contents;", Cond.methodLink RX2 11 yX0_init, Cond.instanceMethod yX1_init, Cond.code yX1_init cX1_init 1 none, Cond.methodLink RX1 3 objectInit, Cond.classLink RX1 9 RX0]
def wsL_law_r4 : List Cond := [Cond.fieldLink RX1 12 "NeighborBook$FrameReader" "contents" "LNeighborBook$Contents;", Cond.methodLink RX1 11 yX0_init, Cond.instanceMethod yX5_init, Cond.code yX5_init cX5_init 1 none, Cond.methodLink RX5 3 objectInit, Cond.fieldLink RX5 9 "NeighborBook$SentFrame" "bytes" "[B", Cond.fieldLink RX5 15 "NeighborBook$SentFrame" "port" "I", Cond.instanceMethod yX4_init, Cond.code yX4_init cX4_init 1 none, Cond.methodLink RX4 3 objectInit, Cond.methodLink RX6 61 yX0_keep, Cond.instanceMethod yX0_keep, Cond.selects RX0 yX0_keep yX0_keep, Cond.code yX0_keep cX0_keep 5 none, Cond.methodLink RX0 39 arraycopyName, Cond.native arraycopyName, Cond.static arraycopyName, Cond.initialized "java/lang/System", Cond.methodLink RX0 32 yX0_isKept, Cond.static yX0_isKept, Cond.code yX0_isKept cX0_isKept 1 (some .boolean), Cond.static yX6_isMore, Cond.code yX6_isMore cX6_isMore 1 (some .boolean), Cond.methodLink RX0 35 yX0_startOf]
def wsL_law_r5 : List Cond := [Cond.static yX0_startOf, Cond.code yX0_startOf cX0_startOf 1 (some .int), Cond.methodLink RL 12 yX7_init, Cond.instanceMethod yX7_init, Cond.code yX7_init cX7_init 2 none, Cond.methodLink RX7 1 objectInit, Cond.fieldLink RX7 7 "NeighborBookModel" "typed" "[B", Cond.fieldLink RX7 13 "NeighborBookModel" "own" "[B", Cond.fieldLink RX7 16 "NeighborBookModel" "ownSizes" "[I", Cond.fieldLink RX7 20 "NeighborBookModel" "interval" "I", Cond.fieldLink RX7 24 "NeighborBookModel" "hold" "I", Cond.fieldLink RX7 27 "NeighborBookModel" "quick" "I", Cond.arrayClass .boolean, Cond.fieldLink RX7 30 "NeighborBookModel" "up" "[Z", Cond.fieldLink RX7 34 "NeighborBookModel" "sentFrames" "[I", Cond.fieldLink RX7 37 "NeighborBookModel" "good" "[I", Cond.fieldLink RX7 40 "NeighborBookModel" "bad" "[I", Cond.fieldLink RX7 43 "NeighborBookModel" "waits" "[I", Cond.fieldLink RX7 46 "NeighborBookModel" "quicks" "[I", Cond.fieldLink RX7 49 "NeighborBookModel" "ports" "[I", Cond.fieldLink RX7 52 "NeighborBookModel" "left" "[I", Cond.fieldLink RX7 55 "NeighborBookModel" "frames" "[I", Cond.fieldLink RX7 58 "NeighborBookModel" "bytes" "[B", Cond.fieldLink RX7 61 "NeighborBookModel" "sizes" "[I"]
def wsL_law_r6 : List Cond := [Cond.fieldLink RX7 64 "NeighborBookModel" "page" "[B", Cond.fieldLink RX7 67 "NeighborBookModel" "pagePort" "I", Cond.methodLink RL 15 yX6_type, Cond.instanceMethod yX6_type, Cond.selects RX6 yX6_type yX6_type, Cond.code yX6_type cX6_type 5 (some .int), Cond.fieldLink RX6 65 "NeighborBook" "typedCount" "I", Cond.methodLink RL 19 yX7_type, Cond.instanceMethod yX7_type, Cond.selects RX7 yX7_type yX7_type, Cond.code yX7_type cX7_type 5 (some .int), Cond.fieldLink RX7 70 "NeighborBookModel" "typedSize" "I", Cond.methodLink RL 20 yX6_tell, Cond.instanceMethod yX6_tell, Cond.selects RX6 yX6_tell yX6_tell, Cond.code yX6_tell cX6_tell 2 (some .int), Cond.methodLink RX6 68 yX6_isTellable, Cond.static yX6_isTellable, Cond.code yX6_isTellable cX6_isTellable 2 (some .boolean), Cond.methodLink RX6 174 yX6_isMore, Cond.methodLink RX6 72 yX6_tellNothing, Cond.instanceMethod yX6_tellNothing, Cond.selects RX6 yX6_tellNothing yX6_tellNothing, Cond.code yX6_tellNothing cX6_tellNothing 2 none]
def wsL_law_r7 : List Cond := [Cond.methodLink RX6 177 yX0_has, Cond.instanceMethod yX0_has, Cond.selects RX0 yX0_has yX0_has, Cond.code yX0_has cX0_has 2 (some .boolean), Cond.methodLink RX0 48 yX0_sizeOf, Cond.instanceMethod yX0_sizeOf, Cond.selects RX0 yX0_sizeOf yX0_sizeOf, Cond.code yX0_sizeOf cX0_sizeOf 2 (some .int), Cond.methodLink RX6 178 yX0_drop, Cond.instanceMethod yX0_drop, Cond.selects RX0 yX0_drop yX0_drop, Cond.code yX0_drop cX0_drop 2 none, Cond.methodLink RX0 45 yX0_has, Cond.methodLink RX6 181 yX6_hurryAll, Cond.instanceMethod yX6_hurryAll, Cond.selects RX6 yX6_hurryAll yX6_hurryAll, Cond.code yX6_hurryAll cX6_hurryAll 2 none, Cond.methodLink RX6 188 yX4_hurry, Cond.instanceMethod yX4_hurry, Cond.selects RX4 yX4_hurry yX4_hurry, Cond.code yX4_hurry cX4_hurry 1 none, Cond.fieldLink RX4 9 "NeighborBook$Port" "up" "Z", Cond.fieldLink RX4 19 "NeighborBook$Port" "waitLeft" "I", Cond.methodLink RX6 76 yX6_tellTyped]
def wsL_law_r8 : List Cond := [Cond.instanceMethod yX6_tellTyped, Cond.selects RX6 yX6_tellTyped yX6_tellTyped, Cond.code yX6_tellTyped cX6_tellTyped 2 none, Cond.methodLink RX6 184 yX0_isSame, Cond.instanceMethod yX0_isSame, Cond.selects RX0 yX0_isSame yX0_isSame, Cond.code yX0_isSame cX0_isSame 7 (some .boolean), Cond.methodLink RL 24 yX7_tell, Cond.instanceMethod yX7_tell, Cond.selects RX7 yX7_tell yX7_tell, Cond.code yX7_tell cX7_tell 4 (some .int), Cond.methodLink RX7 73 yX7_isMore, Cond.static yX7_isMore, Cond.code yX7_isMore cX7_isMore 1 (some .boolean), Cond.methodLink RL 25 yX6_set, Cond.instanceMethod yX6_set, Cond.selects RX6 yX6_set yX6_set, Cond.code yX6_set cX6_set 3 (some .int), Cond.methodLink RL 29 yX7_set, Cond.instanceMethod yX7_set, Cond.selects RX7 yX7_set yX7_set, Cond.code yX7_set cX7_set 5 (some .int), Cond.methodLink RL 30 yX6_port, Cond.instanceMethod yX6_port]
def wsL_law_r9 : List Cond := [Cond.selects RX6 yX6_port yX6_port, Cond.code yX6_port cX6_port 3 (some .int), Cond.methodLink RX6 79 yX6_isPort, Cond.static yX6_isPort, Cond.code yX6_isPort cX6_isPort 1 (some .boolean), Cond.methodLink RX6 83 yX4_isUp, Cond.instanceMethod yX4_isUp, Cond.selects RX4 yX4_isUp yX4_isUp, Cond.code yX4_isUp cX4_isUp 1 (some .boolean), Cond.methodLink RX6 87 yX4_goUp, Cond.instanceMethod yX4_goUp, Cond.selects RX4 yX4_goUp yX4_goUp, Cond.code yX4_goUp cX4_goUp 2 none, Cond.fieldLink RX4 15 "NeighborBook$Port" "quickLeft" "I", Cond.methodLink RX6 90 yX4_goDown, Cond.instanceMethod yX4_goDown, Cond.selects RX4 yX4_goDown yX4_goDown, Cond.code yX4_goDown cX4_goDown 1 none, Cond.fieldLink RX4 22 "NeighborBook$Port" "framesSent" "I", Cond.methodLink RX6 93 yX5_write, Cond.instanceMethod yX5_write, Cond.selects RX5 yX5_write yX5_write, Cond.code yX5_write cX5_write 5 none, Cond.fieldLink RX5 19 "NeighborBook$SentFrame" "length" "I"]
def wsL_law_r10 : List Cond := [Cond.methodLink RX5 22 yX0_sizeOf, Cond.methodLink RX5 28 yX5_putHead, Cond.instanceMethod yX5_putHead, Cond.selects RX5 yX5_putHead yX5_putHead, Cond.code yX5_putHead cX5_putHead 4 none, Cond.methodLink RX5 36 yX5_putByte, Cond.instanceMethod yX5_putByte, Cond.selects RX5 yX5_putByte yX5_putByte, Cond.code yX5_putByte cX5_putByte 2 none, Cond.methodLink RX5 32 yX5_putContent, Cond.instanceMethod yX5_putContent, Cond.selects RX5 yX5_putContent yX5_putContent, Cond.code yX5_putContent cX5_putContent 5 none, Cond.methodLink RX5 44 yX0_byteAt, Cond.instanceMethod yX0_byteAt, Cond.selects RX0 yX0_byteAt yX0_byteAt, Cond.code yX0_byteAt cX0_byteAt 3 (some .int), Cond.methodLink RX5 40 yX0_has, Cond.methodLink RX6 97 yX3_forgetAllAt, Cond.instanceMethod yX3_forgetAllAt, Cond.selects RX3 yX3_forgetAllAt yX3_forgetAllAt, Cond.code yX3_forgetAllAt cX3_forgetAllAt 3 none, Cond.fieldLink RX3 18 "NeighborBook$Neighbors" "size" "I", Cond.methodLink RX3 22 yX2_portOf]
def wsL_law_r11 : List Cond := [Cond.instanceMethod yX2_portOf, Cond.selects RX2 yX2_portOf yX2_portOf, Cond.code yX2_portOf cX2_portOf 1 (some .int), Cond.fieldLink RX2 18 "NeighborBook$Neighbor" "port" "I", Cond.methodLink RX3 44 yX3_forget, Cond.instanceMethod yX3_forget, Cond.selects RX3 yX3_forget yX3_forget, Cond.code yX3_forget cX3_forget 4 none, Cond.methodLink RX3 40 yX3_has, Cond.instanceMethod yX3_has, Cond.selects RX3 yX3_has yX3_has, Cond.code yX3_has cX3_has 2 (some .boolean), Cond.methodLink RL 33 yX7_port, Cond.instanceMethod yX7_port, Cond.selects RX7 yX7_port yX7_port, Cond.code yX7_port cX7_port 4 (some .int), Cond.fieldLink RX7 91 "NeighborBookModel" "known" "I", Cond.methodLink RX7 88 yX7_send, Cond.instanceMethod yX7_send, Cond.selects RX7 yX7_send yX7_send, Cond.code yX7_send cX7_send 5 none, Cond.fieldLink RX7 77 "NeighborBookModel" "pageSize" "I", Cond.methodLink RX7 84 yX7_head, Cond.instanceMethod yX7_head]
def wsL_law_r12 : List Cond := [Cond.selects RX7 yX7_head yX7_head, Cond.code yX7_head cX7_head 3 none, Cond.methodLink RX7 80 yX7_put, Cond.instanceMethod yX7_put, Cond.selects RX7 yX7_put yX7_put, Cond.code yX7_put cX7_put 2 none, Cond.methodLink RX7 94 yX7_forget, Cond.instanceMethod yX7_forget, Cond.selects RX7 yX7_forget yX7_forget, Cond.code yX7_forget cX7_forget 3 none, Cond.methodLink RX7 97 yX7_move, Cond.instanceMethod yX7_move, Cond.selects RX7 yX7_move yX7_move, Cond.code yX7_move cX7_move 5 none, Cond.methodLink RL 34 yX6_hear, Cond.instanceMethod yX6_hear, Cond.selects RX6 yX6_hear yX6_hear, Cond.code yX6_hear cX6_hear 3 (some .int), Cond.fieldLink RX6 112 "NeighborBook" "latestFault" "I", Cond.methodLink RX6 100 yX1_read, Cond.instanceMethod yX1_read, Cond.selects RX1 yX1_read yX1_read, Cond.code yX1_read cX1_read 10 (some .int), Cond.methodLink RX1 22 yX0_clear]
def wsL_law_r13 : List Cond := [Cond.methodLink RX1 25 yX1_pairAt, Cond.static yX1_pairAt, Cond.code yX1_pairAt cX1_pairAt 2 (some .int), Cond.methodLink RX1 29 yX1_faultOfPart, Cond.instanceMethod yX1_faultOfPart, Cond.selects RX1 yX1_faultOfPart yX1_faultOfPart, Cond.code yX1_faultOfPart cX1_faultOfPart 5 (some .int), Cond.methodLink RX1 37 yX1_isOutOfOrder, Cond.static yX1_isOutOfOrder, Cond.code yX1_isOutOfOrder cX1_isOutOfOrder 2 (some .boolean), Cond.methodLink RX1 41 yX1_isWrongSize, Cond.static yX1_isWrongSize, Cond.code yX1_isWrongSize cX1_isWrongSize 2 (some .boolean), Cond.methodLink RX1 48 yX0_has, Cond.methodLink RX1 33 yX1_takePart, Cond.instanceMethod yX1_takePart, Cond.selects RX1 yX1_takePart yX1_takePart, Cond.code yX1_takePart cX1_takePart 5 none, Cond.fieldLink RX1 18 "NeighborBook$FrameReader" "held" "I", Cond.methodLink RX1 51 yX0_keep, Cond.methodLink RX6 104 yX6_learn, Cond.instanceMethod yX6_learn, Cond.selects RX6 yX6_learn yX6_learn, Cond.code yX6_learn cX6_learn 4 (some .int)]
def wsL_law_r14 : List Cond := [Cond.methodLink RX6 191 yX1_contents, Cond.instanceMethod yX1_contents, Cond.selects RX1 yX1_contents yX1_contents, Cond.code yX1_contents cX1_contents 1 (some (.object "NeighborBook$Contents")), Cond.methodLink RX6 170 yX3_find, Cond.instanceMethod yX3_find, Cond.selects RX3 yX3_find yX3_find, Cond.code yX3_find cX3_find 4 (some .int), Cond.methodLink RX3 26 yX2_contents, Cond.instanceMethod yX2_contents, Cond.selects RX2 yX2_contents yX2_contents, Cond.code yX2_contents cX2_contents 1 (some (.object "NeighborBook$Contents")), Cond.methodLink RX3 30 yX0_isSameStation, Cond.instanceMethod yX0_isSameStation, Cond.selects RX0 yX0_isSameStation yX0_isSameStation, Cond.code yX0_isSameStation cX0_isSameStation 2 (some .boolean), Cond.methodLink RX0 51 yX0_isSame, Cond.methodLink RX6 192 yX1_held, Cond.instanceMethod yX1_held, Cond.selects RX1 yX1_held yX1_held, Cond.code yX1_held cX1_held 1 (some .int), Cond.methodLink RX6 195 yX3_forget, Cond.methodLink RX6 198 yX3_add, Cond.instanceMethod yX3_add]
def wsL_law_r15 : List Cond := [Cond.selects RX3 yX3_add yX3_add, Cond.code yX3_add cX3_add 3 (some .int), Cond.methodLink RX3 36 yX2_begin, Cond.instanceMethod yX2_begin, Cond.selects RX2 yX2_begin yX2_begin, Cond.code yX2_begin cX2_begin 2 none, Cond.fieldLink RX2 22 "NeighborBook$Neighbor" "frames" "I", Cond.methodLink RX6 201 yX4_greet, Cond.instanceMethod yX4_greet, Cond.selects RX4 yX4_greet yX4_greet, Cond.code yX4_greet cX4_greet 2 none, Cond.methodLink RX4 25 Lib.Math.max.name, Cond.static Lib.Math.max.name, Cond.initialized "java/lang/Math", Cond.code Lib.Math.max.name Lib.Math.max.code 2 (some .int), Cond.methodLink RX6 153 yX3_at, Cond.instanceMethod yX3_at, Cond.selects RX3 yX3_at yX3_at, Cond.code yX3_at cX3_at 2 (some (.object "NeighborBook$Neighbor")), Cond.methodLink RX6 204 yX2_renew, Cond.instanceMethod yX2_renew, Cond.selects RX2 yX2_renew yX2_renew, Cond.code yX2_renew cX2_renew 4 (some (.object "NeighborBook$Contents")), Cond.fieldLink RX2 25 "NeighborBook$Neighbor" "ticksLeft" "I"]
def wsL_law_r16 : List Cond := [Cond.methodLink RX6 208 yX1_useNext, Cond.instanceMethod yX1_useNext, Cond.selects RX1 yX1_useNext yX1_useNext, Cond.code yX1_useNext cX1_useNext 2 none, Cond.methodLink RX6 108 yX4_noteHeard, Cond.instanceMethod yX4_noteHeard, Cond.selects RX4 yX4_noteHeard yX4_noteHeard, Cond.code yX4_noteHeard cX4_noteHeard 2 none, Cond.fieldLink RX4 31 "NeighborBook$Port" "heardWell" "I", Cond.fieldLink RX4 34 "NeighborBook$Port" "heardFaulty" "I", Cond.methodLink RL 37 yX7_hear, Cond.instanceMethod yX7_hear, Cond.selects RX7 yX7_hear yX7_hear, Cond.code yX7_hear cX7_hear 2 (some .int), Cond.fieldLink RX7 112 "NeighborBookModel" "fault" "I", Cond.methodLink RX7 108 yX7_heard, Cond.instanceMethod yX7_heard, Cond.selects RX7 yX7_heard yX7_heard, Cond.code yX7_heard cX7_heard 5 (some .int), Cond.methodLink RX7 100 yX7_parse, Cond.instanceMethod yX7_parse, Cond.selects RX7 yX7_parse yX7_parse, Cond.code yX7_parse cX7_parse 7 (some .int), Cond.methodLink RX7 104 yX7_isAlike]
def wsL_law_r17 : List Cond := [Cond.instanceMethod yX7_isAlike, Cond.selects RX7 yX7_isAlike yX7_isAlike, Cond.code yX7_isAlike cX7_isAlike 6 (some .boolean), Cond.methodLink RL 38 yX6_tick, Cond.instanceMethod yX6_tick, Cond.selects RX6 yX6_tick yX6_tick, Cond.code yX6_tick cX6_tick 6 (some .int), Cond.fieldLink RX6 115 "NeighborBook" "ticks" "I", Cond.constant RX6 118 (2147483647), Cond.constant RX6 124 (65535), Cond.methodLink RX6 125 Lib.Math.min.name, Cond.static Lib.Math.min.name, Cond.code Lib.Math.min.name Lib.Math.min.code 2 (some .int), Cond.methodLink RX6 119 yX3_passTick, Cond.instanceMethod yX3_passTick, Cond.selects RX3 yX3_passTick yX3_passTick, Cond.code yX3_passTick cX3_passTick 2 none, Cond.methodLink RX3 47 yX2_passTick, Cond.instanceMethod yX2_passTick, Cond.selects RX2 yX2_passTick yX2_passTick, Cond.code yX2_passTick cX2_passTick 1 (some .boolean), Cond.methodLink RX6 122 yX4_passTick, Cond.instanceMethod yX4_passTick, Cond.selects RX4 yX4_passTick yX4_passTick]
def wsL_law_r18 : List Cond := [Cond.code yX4_passTick cX4_passTick 2 (some .boolean), Cond.methodLink RL 41 yX7_tick, Cond.instanceMethod yX7_tick, Cond.selects RX7 yX7_tick yX7_tick, Cond.code yX7_tick cX7_tick 6 (some .int), Cond.fieldLink RX7 115 "NeighborBookModel" "ticks" "I", Cond.constant RX7 118 (2147483647), Cond.constant RX7 119 (65535), Cond.methodLink RL 42 yX6_about, Cond.instanceMethod yX6_about, Cond.selects RX6 yX6_about yX6_about, Cond.code yX6_about cX6_about 3 (some .int), Cond.methodLink RX6 131 yX3_sizeAt, Cond.instanceMethod yX3_sizeAt, Cond.selects RX3 yX3_sizeAt yX3_sizeAt, Cond.code yX3_sizeAt cX3_sizeAt 4 (some .int), Cond.methodLink RX6 134 yX4_tellAbout, Cond.instanceMethod yX4_tellAbout, Cond.selects RX4 yX4_tellAbout yX4_tellAbout, Cond.code yX4_tellAbout cX4_tellAbout 2 (some .int), Cond.methodLink RL 45 yX7_about, Cond.instanceMethod yX7_about, Cond.selects RX7 yX7_about yX7_about, Cond.code yX7_about cX7_about 5 (some .int)]
def wsL_law_r19 : List Cond := [Cond.methodLink RL 46 yX6_count, Cond.instanceMethod yX6_count, Cond.selects RX6 yX6_count yX6_count, Cond.code yX6_count cX6_count 2 (some .int), Cond.methodLink RX6 137 yX3_size, Cond.instanceMethod yX3_size, Cond.selects RX3 yX3_size yX3_size, Cond.code yX3_size cX3_size 1 (some .int), Cond.methodLink RX6 141 yX5_portOf, Cond.instanceMethod yX5_portOf, Cond.selects RX5 yX5_portOf yX5_portOf, Cond.code yX5_portOf cX5_portOf 1 (some .int), Cond.methodLink RX6 144 yX5_length, Cond.instanceMethod yX5_length, Cond.selects RX5 yX5_length yX5_length, Cond.code yX5_length cX5_length 1 (some .int), Cond.methodLink RL 49 yX7_count, Cond.instanceMethod yX7_count, Cond.selects RX7 yX7_count yX7_count, Cond.code yX7_count cX7_count 2 (some .int), Cond.methodLink RL 50 yX6_sent, Cond.instanceMethod yX6_sent, Cond.selects RX6 yX6_sent yX6_sent, Cond.code yX6_sent cX6_sent 2 (some .int)]
def wsL_law_r20 : List Cond := [Cond.methodLink RX6 147 yX5_byteAt, Cond.instanceMethod yX5_byteAt, Cond.selects RX5 yX5_byteAt yX5_byteAt, Cond.code yX5_byteAt cX5_byteAt 2 (some .int), Cond.methodLink RL 53 yX7_sent, Cond.instanceMethod yX7_sent, Cond.selects RX7 yX7_sent yX7_sent, Cond.code yX7_sent cX7_sent 2 (some .int), Cond.methodLink RL 54 yX6_neighbor, Cond.instanceMethod yX6_neighbor, Cond.selects RX6 yX6_neighbor yX6_neighbor, Cond.code yX6_neighbor cX6_neighbor 3 (some .int), Cond.methodLink RX6 150 yX3_has, Cond.methodLink RX6 157 yX2_tellAbout, Cond.instanceMethod yX2_tellAbout, Cond.selects RX2 yX2_tellAbout yX2_tellAbout, Cond.code yX2_tellAbout cX2_tellAbout 2 (some .int), Cond.methodLink RX2 28 yX0_typeBits, Cond.instanceMethod yX0_typeBits, Cond.selects RX0 yX0_typeBits yX0_typeBits, Cond.code yX0_typeBits cX0_typeBits 3 (some .int), Cond.methodLink RL 57 yX7_neighbor, Cond.instanceMethod yX7_neighbor, Cond.selects RX7 yX7_neighbor yX7_neighbor]
def wsL_law_r21 : List Cond := [Cond.code yX7_neighbor cX7_neighbor 5 (some .int), Cond.methodLink RL 58 yX6_content, Cond.instanceMethod yX6_content, Cond.selects RX6 yX6_content yX6_content, Cond.code yX6_content cX6_content 5 (some .int), Cond.methodLink RX6 160 yX2_contents, Cond.methodLink RX6 164 yX0_sizeOf, Cond.methodLink RX6 167 yX0_byteAt, Cond.methodLink RL 62 yX7_content, Cond.instanceMethod yX7_content, Cond.selects RX7 yX7_content yX7_content, Cond.code yX7_content cX7_content 5 (some .int), Cond.methodLink RL 63 yX6_check, Cond.instanceMethod yX6_check, Cond.selects RX6 yX6_check yX6_check, Cond.code yX6_check cX6_check 3 (some .int), Cond.methodLink RX6 169 yX2_portOf, Cond.methodLink RL 67 yX7_check, Cond.instanceMethod yX7_check, Cond.selects RX7 yX7_check yX7_check, Cond.code yX7_check cX7_check 4 (some .int)]
def wsL_law : List Cond := (wsL_law_r1 ++ (wsL_law_r2 ++ (wsL_law_r3 ++ (wsL_law_r4 ++ (wsL_law_r5 ++ (wsL_law_r6 ++ (wsL_law_r7 ++ (wsL_law_r8 ++ (wsL_law_r9 ++ (wsL_law_r10 ++ (wsL_law_r11 ++ (wsL_law_r12 ++ (wsL_law_r13 ++ (wsL_law_r14 ++ (wsL_law_r15 ++ (wsL_law_r16 ++ (wsL_law_r17 ++ (wsL_law_r18 ++ (wsL_law_r19 ++ (wsL_law_r20 ++ wsL_law_r21)))))))))))))))))))) ++ wsX60 ++ wsX70 ++ wsX00 ++ wsX30 ++ wsX10 ++ wsX50 ++ wsX40 ++ wsX20 ++ ([] : List Cond)
set_option maxRecDepth 20000 in
theorem wsL_law_r1_in : ∀ w ∈ wsL_law_r1, w ∈ lw_tbl := fun w h => (goodIn_p wsL_law_r1 [33, 36] (by decide +kernel) (by decide +kernel) w h).1
set_option maxRecDepth 20000 in
theorem wsL_law_r2_in : ∀ w ∈ wsL_law_r2, w ∈ lw_tbl := fun w h => (goodIn_p wsL_law_r2 [41] (by decide +kernel) (by decide +kernel) w h).1
set_option maxRecDepth 20000 in
theorem wsL_law_r3_in : ∀ w ∈ wsL_law_r3, w ∈ lw_tbl := fun w h => (goodIn_p wsL_law_r3 [46, 49, 65, 72, 100] (by decide +kernel) (by decide +kernel) w h).1
set_option maxRecDepth 20000 in
theorem wsL_law_r4_in : ∀ w ∈ wsL_law_r4, w ∈ lw_tbl := fun w h => (goodIn_p wsL_law_r4 [115, 130, 156, 159, 162] (by decide +kernel) (by decide +kernel) w h).1
set_option maxRecDepth 20000 in
theorem wsL_law_r5_in : ∀ w ∈ wsL_law_r5, w ∈ lw_tbl := fun w h => (goodIn_p wsL_law_r5 [165, 484] (by decide +kernel) (by decide +kernel) w h).1
set_option maxRecDepth 20000 in
theorem wsL_law_r6_in : ∀ w ∈ wsL_law_r6, w ∈ lw_tbl := fun w h => (goodIn_p wsL_law_r6 [209, 563, 213, 216, 221] (by decide +kernel) (by decide +kernel) w h).1
set_option maxRecDepth 20000 in
theorem wsL_law_r7_in : ∀ w ∈ wsL_law_r7, w ∈ lw_tbl := fun w h => (goodIn_p wsL_law_r7 [225, 229, 233, 238, 242] (by decide +kernel) (by decide +kernel) w h).1
set_option maxRecDepth 20000 in
theorem wsL_law_r8_in : ∀ w ∈ wsL_law_r8, w ∈ lw_tbl := fun w h => (goodIn_p wsL_law_r8 [246, 250, 567, 570, 254, 574] (by decide +kernel) (by decide +kernel) w h).1
set_option maxRecDepth 20000 in
theorem wsL_law_r9_in : ∀ w ∈ wsL_law_r9, w ∈ lw_tbl := fun w h => (goodIn_p wsL_law_r9 [258, 261, 265, 269, 273, 277] (by decide +kernel) (by decide +kernel) w h).1
set_option maxRecDepth 20000 in
theorem wsL_law_r10_in : ∀ w ∈ wsL_law_r10, w ∈ lw_tbl := fun w h => (goodIn_p wsL_law_r10 [282, 286, 290, 294, 299] (by decide +kernel) (by decide +kernel) w h).1
set_option maxRecDepth 20000 in
theorem wsL_law_r11_in : ∀ w ∈ wsL_law_r11, w ∈ lw_tbl := fun w h => (goodIn_p wsL_law_r11 [303, 307, 311, 578, 582] (by decide +kernel) (by decide +kernel) w h).1
set_option maxRecDepth 20000 in
theorem wsL_law_r12_in : ∀ w ∈ wsL_law_r12, w ∈ lw_tbl := fun w h => (goodIn_p wsL_law_r12 [586, 590, 594, 598, 315, 319] (by decide +kernel) (by decide +kernel) w h).1
set_option maxRecDepth 20000 in
theorem wsL_law_r13_in : ∀ w ∈ wsL_law_r13, w ∈ lw_tbl := fun w h => (goodIn_p wsL_law_r13 [323, 327, 330, 333, 339, 344] (by decide +kernel) (by decide +kernel) w h).1
set_option maxRecDepth 20000 in
theorem wsL_law_r14_in : ∀ w ∈ wsL_law_r14, w ∈ lw_tbl := fun w h => (goodIn_p wsL_law_r14 [348, 352, 356, 360, 365] (by decide +kernel) (by decide +kernel) w h).1
set_option maxRecDepth 20000 in
theorem wsL_law_r15_in : ∀ w ∈ wsL_law_r15, w ∈ lw_tbl := fun w h => (goodIn_p wsL_law_r15 [370, 374, 378, 381, 385, 389] (by decide +kernel) (by decide +kernel) w h).1
set_option maxRecDepth 20000 in
theorem wsL_law_r16_in : ∀ w ∈ wsL_law_r16, w ∈ lw_tbl := fun w h => (goodIn_p wsL_law_r16 [393, 397, 602, 606, 610] (by decide +kernel) (by decide +kernel) w h).1
set_option maxRecDepth 20000 in
theorem wsL_law_r17_in : ∀ w ∈ wsL_law_r17, w ∈ lw_tbl := fun w h => (goodIn_p wsL_law_r17 [614, 401, 418, 406, 410] (by decide +kernel) (by decide +kernel) w h).1
set_option maxRecDepth 20000 in
theorem wsL_law_r18_in : ∀ w ∈ wsL_law_r18, w ∈ lw_tbl := fun w h => (goodIn_p wsL_law_r18 [414, 618, 422, 426, 430, 624] (by decide +kernel) (by decide +kernel) w h).1
set_option maxRecDepth 20000 in
theorem wsL_law_r19_in : ∀ w ∈ wsL_law_r19, w ∈ lw_tbl := fun w h => (goodIn_p wsL_law_r19 [434, 438, 442, 446, 628, 450] (by decide +kernel) (by decide +kernel) w h).1
set_option maxRecDepth 20000 in
theorem wsL_law_r20_in : ∀ w ∈ wsL_law_r20, w ∈ lw_tbl := fun w h => (goodIn_p wsL_law_r20 [454, 632, 458, 463, 467] (by decide +kernel) (by decide +kernel) w h).1
set_option maxRecDepth 20000 in
theorem wsL_law_r21_in : ∀ w ∈ wsL_law_r21, w ∈ lw_tbl := fun w h => (goodIn_p wsL_law_r21 [636, 471, 640, 478, 644] (by decide +kernel) (by decide +kernel) w h).1
set_option maxRecDepth 20000 in
theorem wsX60_in : ∀ w ∈ wsX60, w ∈ lw_tbl := by decide +kernel
set_option maxRecDepth 20000 in
theorem wsX70_in : ∀ w ∈ wsX70, w ∈ lw_tbl := by decide +kernel
set_option maxRecDepth 20000 in
theorem wsX00_in : ∀ w ∈ wsX00, w ∈ lw_tbl := by decide +kernel
set_option maxRecDepth 20000 in
theorem wsX30_in : ∀ w ∈ wsX30, w ∈ lw_tbl := by decide +kernel
set_option maxRecDepth 20000 in
theorem wsX10_in : ∀ w ∈ wsX10, w ∈ lw_tbl := by decide +kernel
set_option maxRecDepth 20000 in
theorem wsX50_in : ∀ w ∈ wsX50, w ∈ lw_tbl := by decide +kernel
set_option maxRecDepth 20000 in
theorem wsX40_in : ∀ w ∈ wsX40, w ∈ lw_tbl := by decide +kernel
set_option maxRecDepth 20000 in
theorem wsX20_in : ∀ w ∈ wsX20, w ∈ lw_tbl := by decide +kernel
theorem wsL_law_in : ∀ w ∈ wsL_law, w ∈ lw_tbl := List.forall_mem_append.mpr ⟨List.forall_mem_append.mpr ⟨List.forall_mem_append.mpr ⟨List.forall_mem_append.mpr ⟨List.forall_mem_append.mpr ⟨List.forall_mem_append.mpr ⟨List.forall_mem_append.mpr ⟨List.forall_mem_append.mpr ⟨List.forall_mem_append.mpr ⟨List.forall_mem_append.mpr ⟨wsL_law_r1_in, List.forall_mem_append.mpr ⟨wsL_law_r2_in, List.forall_mem_append.mpr ⟨wsL_law_r3_in, List.forall_mem_append.mpr ⟨wsL_law_r4_in, List.forall_mem_append.mpr ⟨wsL_law_r5_in, List.forall_mem_append.mpr ⟨wsL_law_r6_in, List.forall_mem_append.mpr ⟨wsL_law_r7_in, List.forall_mem_append.mpr ⟨wsL_law_r8_in, List.forall_mem_append.mpr ⟨wsL_law_r9_in, List.forall_mem_append.mpr ⟨wsL_law_r10_in, List.forall_mem_append.mpr ⟨wsL_law_r11_in, List.forall_mem_append.mpr ⟨wsL_law_r12_in, List.forall_mem_append.mpr ⟨wsL_law_r13_in, List.forall_mem_append.mpr ⟨wsL_law_r14_in, List.forall_mem_append.mpr ⟨wsL_law_r15_in, List.forall_mem_append.mpr ⟨wsL_law_r16_in, List.forall_mem_append.mpr ⟨wsL_law_r17_in, List.forall_mem_append.mpr ⟨wsL_law_r18_in, List.forall_mem_append.mpr ⟨wsL_law_r19_in, List.forall_mem_append.mpr ⟨wsL_law_r20_in, wsL_law_r21_in⟩⟩⟩⟩⟩⟩⟩⟩⟩⟩⟩⟩⟩⟩⟩⟩⟩⟩⟩⟩, wsX60_in⟩, wsX70_in⟩, wsX00_in⟩, wsX30_in⟩, wsX10_in⟩, wsX50_in⟩, wsX40_in⟩, wsX20_in⟩, fun _ h => absurd h List.not_mem_nil⟩
theorem inlX0 : ∀ w ∈ wsX00, w ∈ wsL_law := fun _ h => List.mem_append_left _ (List.mem_append_left _ (List.mem_append_left _ (List.mem_append_left _ (List.mem_append_left _ (List.mem_append_left _ (List.mem_append_right _ h))))))
theorem inX0 : ∀ w ∈ wsX00, w ∈ lw_tbl := fun w h => wsL_law_in w (inlX0 w h)
theorem inlX1 : ∀ w ∈ wsX10, w ∈ wsL_law := fun _ h => List.mem_append_left _ (List.mem_append_left _ (List.mem_append_left _ (List.mem_append_left _ (List.mem_append_right _ h))))
theorem inX1 : ∀ w ∈ wsX10, w ∈ lw_tbl := fun w h => wsL_law_in w (inlX1 w h)
theorem inlX2 : ∀ w ∈ wsX20, w ∈ wsL_law := fun _ h => List.mem_append_left _ (List.mem_append_right _ h)
theorem inX2 : ∀ w ∈ wsX20, w ∈ lw_tbl := fun w h => wsL_law_in w (inlX2 w h)
theorem inlX3 : ∀ w ∈ wsX30, w ∈ wsL_law := fun _ h => List.mem_append_left _ (List.mem_append_left _ (List.mem_append_left _ (List.mem_append_left _ (List.mem_append_left _ (List.mem_append_right _ h)))))
theorem inX3 : ∀ w ∈ wsX30, w ∈ lw_tbl := fun w h => wsL_law_in w (inlX3 w h)
theorem inlX4 : ∀ w ∈ wsX40, w ∈ wsL_law := fun _ h => List.mem_append_left _ (List.mem_append_left _ (List.mem_append_right _ h))
theorem inX4 : ∀ w ∈ wsX40, w ∈ lw_tbl := fun w h => wsL_law_in w (inlX4 w h)
theorem inlX5 : ∀ w ∈ wsX50, w ∈ wsL_law := fun _ h => List.mem_append_left _ (List.mem_append_left _ (List.mem_append_left _ (List.mem_append_right _ h)))
theorem inX5 : ∀ w ∈ wsX50, w ∈ lw_tbl := fun w h => wsL_law_in w (inlX5 w h)
theorem inlX6 : ∀ w ∈ wsX60, w ∈ wsL_law := fun _ h => List.mem_append_left _ (List.mem_append_left _ (List.mem_append_left _ (List.mem_append_left _ (List.mem_append_left _ (List.mem_append_left _ (List.mem_append_left _ (List.mem_append_left _ (List.mem_append_right _ h))))))))
theorem inX6 : ∀ w ∈ wsX60, w ∈ lw_tbl := fun w h => wsL_law_in w (inlX6 w h)
theorem inlX7 : ∀ w ∈ wsX70, w ∈ wsL_law := fun _ h => List.mem_append_left _ (List.mem_append_left _ (List.mem_append_left _ (List.mem_append_left _ (List.mem_append_left _ (List.mem_append_left _ (List.mem_append_left _ (List.mem_append_right _ h)))))))
theorem inX7 : ∀ w ∈ wsX70, w ∈ lw_tbl := fun w h => wsL_law_in w (inlX7 w h)
theorem inJ9 : ∀ w ∈ wsJ90, w ∈ lw_tbl := by decide +kernel
theorem inJ10 : ∀ w ∈ wsJ100, w ∈ lw_tbl := by decide +kernel
theorem inJ7 : ∀ w ∈ wsJ70, w ∈ lw_tbl := by decide +kernel
