-- ===== PART A: goes FIRST, ahead of the names: the tables' words, and 'selects' of the private methods out of them =====
/-- a private method of a class that the tables say can be made, by its rows of tables_1 -/
def lw_okq (q : MethodName × Nat) : Prop := (q.1.cls ≠ "java/lang/invoke/MethodHandle" ∧ q.1.cls ≠ "java/lang/invoke/VarHandle") ∧ Cond.instantiable q.1.cls q.2 ∈ tables_1 ∧ Cond.privateMethod q.1 ∈ tables_1 ∧ Cond.instanceMethod q.1 ∈ tables_1
theorem lw_p0 : lw_okq (⟨"TimingLights", "recorded", "(I)I"⟩, 7) := ⟨⟨by decide +kernel, by decide +kernel⟩, List.mem_of_getElem? (i := 12) (by decide +kernel), List.mem_of_getElem? (i := 198) (by decide +kernel), List.mem_of_getElem? (i := 199) (by decide +kernel)⟩
def lw_privs_1 : List (MethodName × Nat) := [(⟨"TimingLights", "recorded", "(I)I"⟩, 7)]
theorem lw_r1 : ∀ q ∈ lw_privs_1, lw_okq q := List.forall_mem_cons.mpr ⟨lw_p0, fun _ h => absurd h List.not_mem_nil⟩
def lw_privs : List (MethodName × Nat) := lw_privs_1
def lw_tbl : List Cond := k2_sels lw_privs ++ tables_1
theorem lw_privs_ok : ∀ q ∈ lw_privs, lw_okq q := lw_r1
def RX0 : String := "TimingLights$Changes"
def TX0 : u_T := fun k => match k with
  | _ => ("", "", "", false)
def tyX0 : Nat → FieldType := fun k => match k with
  | _ => .int
abbrev wsX00 : List Cond := u_ws RX0 TX0 0
theorem nmX0 : ∀ a, a < 0 → ∀ b, b < 0 → a ≠ b → (TX0 a).2.1 ≠ (TX0 b).2.1 := by decide +kernel
theorem tyX0_ok : ∀ k, k < 0 → parseFieldDescriptor (TX0 k).2.2.1 = some (tyX0 k) := by decide +kernel
abbrev cX0_changeSetting : ByteArray := prog_2_method_2_code
def yX0_changeSetting : MethodName := ⟨RX0, "changeSetting", "(LTimingLights$Reel;II)I"⟩
abbrev cX0_addShot : ByteArray := prog_2_method_3_code
def yX0_addShot : MethodName := ⟨RX0, "addShot", "(LTimingLights$Reel;IIIII)I"⟩
abbrev cX0_dropShot : ByteArray := prog_2_method_4_code
def yX0_dropShot : MethodName := ⟨RX0, "dropShot", "(LTimingLights$Reel;I)I"⟩
abbrev cX0_changeLight : ByteArray := prog_2_method_5_code
def yX0_changeLight : MethodName := ⟨RX0, "changeLight", "(LTimingLights$Reel;III)I"⟩
abbrev cX0_changeWish : ByteArray := prog_2_method_6_code
def yX0_changeWish : MethodName := ⟨RX0, "changeWish", "(LTimingLights$Reel;III)I"⟩
abbrev cX0_moveShot : ByteArray := prog_2_method_7_code
def yX0_moveShot : MethodName := ⟨RX0, "moveShot", "(LTimingLights$Reel;II)I"⟩
abbrev cX0_splitShot : ByteArray := prog_2_method_8_code
def yX0_splitShot : MethodName := ⟨RX0, "splitShot", "(LTimingLights$Reel;II)I"⟩
abbrev cX0_joinShots : ByteArray := prog_2_method_9_code
def yX0_joinShots : MethodName := ⟨RX0, "joinShots", "(LTimingLights$Reel;I)I"⟩
abbrev cX0_isSameStock : ByteArray := prog_2_method_10_code
def yX0_isSameStock : MethodName := ⟨RX0, "isSameStock", "(LTimingLights$Reel;II)Z"⟩
abbrev cX0_makePrint : ByteArray := prog_2_method_11_code
def yX0_makePrint : MethodName := ⟨RX0, "makePrint", "(LTimingLights$Reel;)I"⟩
abbrev cX0_runPrinter : ByteArray := prog_2_method_12_code
def yX0_runPrinter : MethodName := ⟨RX0, "runPrinter", "(LTimingLights$Reel;)I"⟩
abbrev cX0_hoursOfPrint : ByteArray := prog_2_method_13_code
def yX0_hoursOfPrint : MethodName := ⟨RX0, "hoursOfPrint", "(LTimingLights$Reel;)I"⟩
abbrev cX0_correctShot : ByteArray := prog_2_method_14_code
def yX0_correctShot : MethodName := ⟨RX0, "correctShot", "(LTimingLights$Reel;I)I"⟩
abbrev cX0_correctLight : ByteArray := prog_2_method_15_code
def yX0_correctLight : MethodName := ⟨RX0, "correctLight", "(LTimingLights$Reel;II)I"⟩
abbrev cX0_correctBadShots : ByteArray := prog_2_method_16_code
def yX0_correctBadShots : MethodName := ⟨RX0, "correctBadShots", "(LTimingLights$Reel;)I"⟩
abbrev cX0_setByCard : ByteArray := prog_2_method_17_code
def yX0_setByCard : MethodName := ⟨RX0, "setByCard", "(LTimingLights$Reel;)I"⟩
abbrev cX0_changeTrim : ByteArray := prog_2_method_18_code
def yX0_changeTrim : MethodName := ⟨RX0, "changeTrim", "(LTimingLights$Reel;II)I"⟩
abbrev cX0_changeLamp : ByteArray := prog_2_method_19_code
def yX0_changeLamp : MethodName := ⟨RX0, "changeLamp", "(LTimingLights$Reel;I)I"⟩
abbrev cX0_exchange : ByteArray := prog_2_method_20_code
def yX0_exchange : MethodName := ⟨RX0, "exchange", "(LTimingLights$Reel;II)I"⟩
def RX1 : String := "TimingLights$History"
def TX1 : u_T := fun k => match k with
  | 0 => ("TimingLights$History", "shelf", "LTimingLights$Shelf;", true)
  | 1 => ("TimingLights$History", "oldest", "I", false)
  | _ => ("TimingLights$History", "size", "I", false)
def tyX1 : Nat → FieldType := fun k => match k with
  | 0 => .object "TimingLights$Shelf"
  | 1 => .int
  | _ => .int
abbrev wsX10 : List Cond := u_ws RX1 TX1 3
theorem nmX1 : ∀ a, a < 3 → ∀ b, b < 3 → a ≠ b → (TX1 a).2.1 ≠ (TX1 b).2.1 := by decide +kernel
theorem tyX1_ok : ∀ k, k < 3 → parseFieldDescriptor (TX1 k).2.2.1 = some (tyX1 k) := by decide +kernel
abbrev cX1_init : ByteArray := prog_3_method_1_code
def yX1_init : MethodName := ⟨RX1, "<init>", "()V"⟩
abbrev cX1_size : ByteArray := prog_3_method_2_code
def yX1_size : MethodName := ⟨RX1, "size", "()I"⟩
abbrev cX1_record : ByteArray := prog_3_method_3_code
def yX1_record : MethodName := ⟨RX1, "record", "(LTimingLights$Reel;)V"⟩
abbrev cX1_takeBack : ByteArray := prog_3_method_4_code
def yX1_takeBack : MethodName := ⟨RX1, "takeBack", "(LTimingLights$Reel;)V"⟩
def RX2 : String := "TimingLights$Pad"
def TX2 : u_T := fun k => match k with
  | 0 => ("TimingLights$Pad", "characters", "[C", true)
  | 1 => ("TimingLights$Pad", "numbers", "[I", true)
  | 2 => ("TimingLights$Pad", "length", "I", false)
  | 3 => ("TimingLights$Pad", "at", "I", false)
  | 4 => ("TimingLights$Pad", "numbersRead", "I", false)
  | 5 => ("TimingLights$Pad", "letter", "I", false)
  | 6 => ("TimingLights$Pad", "colour", "I", false)
  | _ => ("TimingLights$Pad", "minus", "Z", false)
def tyX2 : Nat → FieldType := fun k => match k with
  | 0 => .array .char
  | 1 => .array .int
  | 2 => .int
  | 3 => .int
  | 4 => .int
  | 5 => .int
  | 6 => .int
  | _ => .boolean
abbrev wsX20 : List Cond := u_ws RX2 TX2 8
theorem nmX2 : ∀ a, a < 8 → ∀ b, b < 8 → a ≠ b → (TX2 a).2.1 ≠ (TX2 b).2.1 := by decide +kernel
theorem tyX2_ok : ∀ k, k < 8 → parseFieldDescriptor (TX2 k).2.2.1 = some (tyX2 k) := by decide +kernel
abbrev cX2_init : ByteArray := prog_4_method_1_code
def yX2_init : MethodName := ⟨RX2, "<init>", "()V"⟩
abbrev cX2_length : ByteArray := prog_4_method_2_code
def yX2_length : MethodName := ⟨RX2, "length", "()I"⟩
def RX3 : String := "TimingLights$Reel"
def TX3 : u_T := fun k => match k with
  | _ => ("TimingLights$Reel", "cells", "[I", true)
def tyX3 : Nat → FieldType := fun k => match k with
  | _ => .array .int
abbrev wsX30 : List Cond := u_ws RX3 TX3 1
theorem nmX3 : ∀ a, a < 1 → ∀ b, b < 1 → a ≠ b → (TX3 a).2.1 ≠ (TX3 b).2.1 := by decide +kernel
theorem tyX3_ok : ∀ k, k < 1 → parseFieldDescriptor (TX3 k).2.2.1 = some (tyX3 k) := by decide +kernel
abbrev cX3_init : ByteArray := prog_5_method_1_code
def yX3_init : MethodName := ⟨RX3, "<init>", "()V"⟩
abbrev cX3_read : ByteArray := prog_5_method_2_code
def yX3_read : MethodName := ⟨RX3, "read", "(I)I"⟩
abbrev cX3_write : ByteArray := prog_5_method_3_code
def yX3_write : MethodName := ⟨RX3, "write", "(II)V"⟩
abbrev cX3_readShot : ByteArray := prog_5_method_4_code
def yX3_readShot : MethodName := ⟨RX3, "readShot", "(II)I"⟩
abbrev cX3_writeShot : ByteArray := prog_5_method_5_code
def yX3_writeShot : MethodName := ⟨RX3, "writeShot", "(III)V"⟩
abbrev cX3_lampLoss : ByteArray := prog_5_method_6_code
def yX3_lampLoss : MethodName := ⟨RX3, "lampLoss", "(I)I"⟩
abbrev cX3_shots : ByteArray := prog_5_method_7_code
def yX3_shots : MethodName := ⟨RX3, "shots", "()I"⟩
abbrev cX3_hasShot : ByteArray := prog_5_method_8_code
def yX3_hasShot : MethodName := ⟨RX3, "hasShot", "(I)Z"⟩
abbrev cX3_openPlace : ByteArray := prog_5_method_9_code
def yX3_openPlace : MethodName := ⟨RX3, "openPlace", "(I)V"⟩
abbrev cX3_closePlace : ByteArray := prog_5_method_10_code
def yX3_closePlace : MethodName := ⟨RX3, "closePlace", "(I)V"⟩
abbrev cX3_copyShot : ByteArray := prog_5_method_11_code
def yX3_copyShot : MethodName := ⟨RX3, "copyShot", "(II)V"⟩
abbrev cX3_swapShots : ByteArray := prog_5_method_12_code
def yX3_swapShots : MethodName := ⟨RX3, "swapShots", "(II)V"⟩
abbrev cX3_become : ByteArray := prog_5_method_13_code
def yX3_become : MethodName := ⟨RX3, "become", "(LTimingLights$Reel;)V"⟩
abbrev cX3_writeTo : ByteArray := prog_5_method_14_code
def yX3_writeTo : MethodName := ⟨RX3, "writeTo", "([II)V"⟩
abbrev cX3_readFrom : ByteArray := prog_5_method_15_code
def yX3_readFrom : MethodName := ⟨RX3, "readFrom", "([II)V"⟩
def RX4 : String := "TimingLights$Shelf"
def TX4 : u_T := fun k => match k with
  | _ => ("TimingLights$Shelf", "rows", "[I", true)
def tyX4 : Nat → FieldType := fun k => match k with
  | _ => .array .int
abbrev wsX40 : List Cond := u_ws RX4 TX4 1
theorem nmX4 : ∀ a, a < 1 → ∀ b, b < 1 → a ≠ b → (TX4 a).2.1 ≠ (TX4 b).2.1 := by decide +kernel
theorem tyX4_ok : ∀ k, k < 1 → parseFieldDescriptor (TX4 k).2.2.1 = some (tyX4 k) := by decide +kernel
abbrev cX4_init : ByteArray := prog_6_method_1_code
def yX4_init : MethodName := ⟨RX4, "<init>", "(I)V"⟩
abbrev cX4_keep : ByteArray := prog_6_method_2_code
def yX4_keep : MethodName := ⟨RX4, "keep", "(ILTimingLights$Reel;)V"⟩
abbrev cX4_give : ByteArray := prog_6_method_3_code
def yX4_give : MethodName := ⟨RX4, "give", "(ILTimingLights$Reel;)V"⟩
def RX5 : String := "TimingLights$Views"
def TX5 : u_T := fun k => match k with
  | _ => ("", "", "", false)
def tyX5 : Nat → FieldType := fun k => match k with
  | _ => .int
abbrev wsX50 : List Cond := u_ws RX5 TX5 0
theorem nmX5 : ∀ a, a < 0 → ∀ b, b < 0 → a ≠ b → (TX5 a).2.1 ≠ (TX5 b).2.1 := by decide +kernel
theorem tyX5_ok : ∀ k, k < 0 → parseFieldDescriptor (TX5 k).2.2.1 = some (tyX5 k) := by decide +kernel
abbrev cX5_printsWith : ByteArray := prog_7_method_2_code
def yX5_printsWith : MethodName := ⟨RX5, "printsWith", "(LTimingLights$Reel;IIII)I"⟩
abbrev cX5_printsNow : ByteArray := prog_7_method_3_code
def yX5_printsNow : MethodName := ⟨RX5, "printsNow", "(LTimingLights$Reel;II)I"⟩
abbrev cX5_offWith : ByteArray := prog_7_method_4_code
def yX5_offWith : MethodName := ⟨RX5, "offWith", "(LTimingLights$Reel;III)I"⟩
abbrev cX5_offNow : ByteArray := prog_7_method_5_code
def yX5_offNow : MethodName := ⟨RX5, "offNow", "(LTimingLights$Reel;II)I"⟩
abbrev cX5_feetBefore : ByteArray := prog_7_method_6_code
def yX5_feetBefore : MethodName := ⟨RX5, "feetBefore", "(LTimingLights$Reel;I)I"⟩
abbrev cX5_isAnswered : ByteArray := prog_7_method_7_code
def yX5_isAnswered : MethodName := ⟨RX5, "isAnswered", "(LTimingLights$Reel;I)Z"⟩
abbrev cX5_isBad : ByteArray := prog_7_method_8_code
def yX5_isBad : MethodName := ⟨RX5, "isBad", "(LTimingLights$Reel;I)Z"⟩
abbrev cX5_isOff : ByteArray := prog_7_method_9_code
def yX5_isOff : MethodName := ⟨RX5, "isOff", "(LTimingLights$Reel;I)Z"⟩
abbrev cX5_jumps : ByteArray := prog_7_method_10_code
def yX5_jumps : MethodName := ⟨RX5, "jumps", "(LTimingLights$Reel;I)Z"⟩
abbrev cX5_holds : ByteArray := prog_7_method_11_code
def yX5_holds : MethodName := ⟨RX5, "holds", "(LTimingLights$Reel;II)Z"⟩
abbrev cX5_setOf : ByteArray := prog_7_method_12_code
def yX5_setOf : MethodName := ⟨RX5, "setOf", "(LTimingLights$Reel;I)I"⟩
def RX6 : String := "TimingLights$WhatIf"
def TX6 : u_T := fun k => match k with
  | _ => ("", "", "", false)
def tyX6 : Nat → FieldType := fun k => match k with
  | _ => .int
abbrev wsX60 : List Cond := u_ws RX6 TX6 0
theorem nmX6 : ∀ a, a < 0 → ∀ b, b < 0 → a ≠ b → (TX6 a).2.1 ≠ (TX6 b).2.1 := by decide +kernel
theorem tyX6_ok : ∀ k, k < 0 → parseFieldDescriptor (TX6 k).2.2.1 = some (tyX6 k) := by decide +kernel
abbrev cX6_lightNeeded : ByteArray := prog_8_method_2_code
def yX6_lightNeeded : MethodName := ⟨RX6, "lightNeeded", "(LTimingLights$Reel;III)I"⟩
abbrev cX6_leastOffTrim : ByteArray := prog_8_method_5_code
def yX6_leastOffTrim : MethodName := ⟨RX6, "leastOffTrim", "(LTimingLights$Reel;I)I"⟩
abbrev cX6_offTogether : ByteArray := prog_8_method_6_code
def yX6_offTogether : MethodName := ⟨RX6, "offTogether", "(LTimingLights$Reel;II)I"⟩
def RX7 : String := "TimingLights"
def TX7 : u_T := fun k => match k with
  | 0 => ("TimingLights", "reel", "LTimingLights$Reel;", true)
  | 1 => ("TimingLights", "before", "LTimingLights$Reel;", true)
  | 2 => ("TimingLights", "trial", "LTimingLights$Reel;", true)
  | 3 => ("TimingLights", "pad", "LTimingLights$Pad;", true)
  | 4 => ("TimingLights", "history", "LTimingLights$History;", true)
  | 5 => ("TimingLights", "slots", "LTimingLights$Shelf;", true)
  | _ => ("TimingLights", "slotsFilled", "I", false)
def tyX7 : Nat → FieldType := fun k => match k with
  | 0 => .object "TimingLights$Reel"
  | 1 => .object "TimingLights$Reel"
  | 2 => .object "TimingLights$Reel"
  | 3 => .object "TimingLights$Pad"
  | 4 => .object "TimingLights$History"
  | 5 => .object "TimingLights$Shelf"
  | _ => .int
abbrev wsX70 : List Cond := u_ws RX7 TX7 7
theorem nmX7 : ∀ a, a < 7 → ∀ b, b < 7 → a ≠ b → (TX7 a).2.1 ≠ (TX7 b).2.1 := by decide +kernel
theorem tyX7_ok : ∀ k, k < 7 → parseFieldDescriptor (TX7 k).2.2.1 = some (tyX7 k) := by decide +kernel
abbrev cX7_init : ByteArray := prog_1_method_1_code
def yX7_init : MethodName := ⟨RX7, "<init>", "()V"⟩
abbrev cX7_set : ByteArray := prog_1_method_2_code
def yX7_set : MethodName := ⟨RX7, "set", "(II)I"⟩
abbrev cX7_shot : ByteArray := prog_1_method_3_code
def yX7_shot : MethodName := ⟨RX7, "shot", "(IIIII)I"⟩
abbrev cX7_takeOut : ByteArray := prog_1_method_4_code
def yX7_takeOut : MethodName := ⟨RX7, "takeOut", "(I)I"⟩
abbrev cX7_light : ByteArray := prog_1_method_5_code
def yX7_light : MethodName := ⟨RX7, "light", "(III)I"⟩
abbrev cX7_wish : ByteArray := prog_1_method_6_code
def yX7_wish : MethodName := ⟨RX7, "wish", "(III)I"⟩
abbrev cX7_move : ByteArray := prog_1_method_7_code
def yX7_move : MethodName := ⟨RX7, "move", "(II)I"⟩
abbrev cX7_split : ByteArray := prog_1_method_8_code
def yX7_split : MethodName := ⟨RX7, "split", "(II)I"⟩
abbrev cX7_join : ByteArray := prog_1_method_9_code
def yX7_join : MethodName := ⟨RX7, "join", "(I)I"⟩
abbrev cX7_print : ByteArray := prog_1_method_10_code
def yX7_print : MethodName := ⟨RX7, "print", "()I"⟩
abbrev cX7_correct : ByteArray := prog_1_method_11_code
def yX7_correct : MethodName := ⟨RX7, "correct", "(I)I"⟩
abbrev cX7_correctAll : ByteArray := prog_1_method_12_code
def yX7_correctAll : MethodName := ⟨RX7, "correctAll", "()I"⟩
abbrev cX7_card : ByteArray := prog_1_method_13_code
def yX7_card : MethodName := ⟨RX7, "card", "()I"⟩
abbrev cX7_trim : ByteArray := prog_1_method_14_code
def yX7_trim : MethodName := ⟨RX7, "trim", "(II)I"⟩
abbrev cX7_lamp : ByteArray := prog_1_method_15_code
def yX7_lamp : MethodName := ⟨RX7, "lamp", "(I)I"⟩
abbrev cX7_of : ByteArray := prog_1_method_16_code
def yX7_of : MethodName := ⟨RX7, "of", "(II)I"⟩
abbrev cX7_inColour : ByteArray := prog_1_method_17_code
def yX7_inColour : MethodName := ⟨RX7, "inColour", "(III)I"⟩
abbrev cX7_ofLamp : ByteArray := prog_1_method_18_code
def yX7_ofLamp : MethodName := ⟨RX7, "ofLamp", "(II)I"⟩
abbrev cX7_count : ByteArray := prog_1_method_19_code
def yX7_count : MethodName := ⟨RX7, "count", "(I)I"⟩
abbrev cX7_needs : ByteArray := prog_1_method_20_code
def yX7_needs : MethodName := ⟨RX7, "needs", "(II)I"⟩
abbrev cX7_ifLight : ByteArray := prog_1_method_21_code
def yX7_ifLight : MethodName := ⟨RX7, "ifLight", "(III)I"⟩
abbrev cX7_bestTrim : ByteArray := prog_1_method_23_code
def yX7_bestTrim : MethodName := ⟨RX7, "bestTrim", "(II)I"⟩
abbrev cX7_undo : ByteArray := prog_1_method_29_code
def yX7_undo : MethodName := ⟨RX7, "undo", "()I"⟩
abbrev cX7_recorded : ByteArray := prog_1_method_32_code
def yX7_recorded : MethodName := ⟨RX7, "recorded", "(I)I"⟩
abbrev cX7_isWithin : ByteArray := prog_1_method_34_code
def yX7_isWithin : MethodName := ⟨RX7, "isWithin", "(III)Z"⟩
abbrev cX7_isColour : ByteArray := prog_1_method_35_code
def yX7_isColour : MethodName := ⟨RX7, "isColour", "(I)Z"⟩
abbrev cX7_isPoints : ByteArray := prog_1_method_36_code
def yX7_isPoints : MethodName := ⟨RX7, "isPoints", "(I)Z"⟩
abbrev cX7_bounded : ByteArray := prog_1_method_38_code
def yX7_bounded : MethodName := ⟨RX7, "bounded", "(I)I"⟩
def RX8 : String := "TimingLightsModel"
def TX8 : u_T := fun k => match k with
  | _ => ("", "", "", false)
def tyX8 : Nat → FieldType := fun k => match k with
  | _ => .int
abbrev wsX80 : List Cond := u_ws RX8 TX8 0
theorem nmX8 : ∀ a, a < 0 → ∀ b, b < 0 → a ≠ b → (TX8 a).2.1 ≠ (TX8 b).2.1 := by decide +kernel
theorem tyX8_ok : ∀ k, k < 0 → parseFieldDescriptor (TX8 k).2.2.1 = some (tyX8 k) := by decide +kernel
def RJ9 : String := "java/lang/Math"
def TJ9 : u_T := fun k => match k with
  | _ => ("", "", "", false)
def tyJ9 : Nat → FieldType := fun k => match k with
  | _ => .int
abbrev wsJ90 : List Cond := u_ws RJ9 TJ9 0
theorem nmJ9 : ∀ a, a < 0 → ∀ b, b < 0 → a ≠ b → (TJ9 a).2.1 ≠ (TJ9 b).2.1 := by decide +kernel
theorem tyJ9_ok : ∀ k, k < 0 → parseFieldDescriptor (TJ9 k).2.2.1 = some (tyJ9 k) := by decide +kernel
abbrev cJ9_abs_0f7a4 : ByteArray := prog_11_method_59_code
def yJ9_abs_0f7a4 : MethodName := ⟨RJ9, "abs", "(I)I"⟩
abbrev cJ9_max_7cf53 : ByteArray := prog_11_method_65_code
def yJ9_max_7cf53 : MethodName := ⟨RJ9, "max", "(II)I"⟩
abbrev cJ9_min_7cf53 : ByteArray := prog_11_method_69_code
def yJ9_min_7cf53 : MethodName := ⟨RJ9, "min", "(II)I"⟩
def RJ10 : String := "java/lang/System"
def TJ10 : u_T := fun k => match k with
  | _ => ("", "", "", false)
def tyJ10 : Nat → FieldType := fun k => match k with
  | _ => .int
abbrev wsJ100 : List Cond := u_ws RJ10 TJ10 0
theorem nmJ10 : ∀ a, a < 0 → ∀ b, b < 0 → a ≠ b → (TJ10 a).2.1 ≠ (TJ10 b).2.1 := by decide +kernel
theorem tyJ10_ok : ∀ k, k < 0 → parseFieldDescriptor (TJ10 k).2.2.1 = some (tyJ10 k) := by decide +kernel
def RL : String := "TimingLightsLaw"
abbrev cL_cell : ByteArray := method_2_code
def yL_cell : MethodName := ⟨RL, "cell", "([II)I"⟩
abbrev cL_low : ByteArray := method_3_code
def yL_low : MethodName := ⟨RL, "low", "(II)I"⟩
abbrev cL_size : ByteArray := method_4_code
def yL_size : MethodName := ⟨RL, "size", "(I)I"⟩
abbrev cL_prints : ByteArray := method_5_code
def yL_prints : MethodName := ⟨RL, "prints", "(III[I[I)I"⟩
abbrev cL_off : ByteArray := method_6_code
def yL_off : MethodName := ⟨RL, "off", "(II[I[I[I[I)I"⟩
abbrev cL_isBad : ByteArray := method_7_code
def yL_isBad : MethodName := ⟨RL, "isBad", "(I[I[I)Z"⟩
abbrev cL_jumps : ByteArray := method_8_code
def yL_jumps : MethodName := ⟨RL, "jumps", "(I[I[I[I)Z"⟩
abbrev cL_shift : ByteArray := method_9_code
def yL_shift : MethodName := ⟨RL, "shift", "(II[I[I[I[I[I[I)V"⟩
abbrev cL_copy : ByteArray := method_10_code
def yL_copy : MethodName := ⟨RL, "copy", "(II[I[I[I[I[I)V"⟩
abbrev cL_forget : ByteArray := method_11_code
def yL_forget : MethodName := ⟨RL, "forget", "(I[I)V"⟩
abbrev cL_feet : ByteArray := method_12_code
def yL_feet : MethodName := ⟨RL, "feet", "(I[I)I"⟩
abbrev cL_corrects : ByteArray := method_13_code
def yL_corrects : MethodName := ⟨RL, "corrects", "(I[I[I[I)I"⟩
abbrev cL_print : ByteArray := method_14_code
def yL_print : MethodName := ⟨RL, "print", "([I[I[I[I[I[I)I"⟩
abbrev cL_call : ByteArray := method_15_code
def yL_call : MethodName := ⟨RL, "call", "(LTimingLights;IIII)I"⟩
abbrev cL_ofShot : ByteArray := method_16_code
def yL_ofShot : MethodName := ⟨RL, "ofShot", "(IIII[I[I[I[I[I[I)I"⟩
abbrev cL_due : ByteArray := method_17_code
def yL_due : MethodName := ⟨RL, "due", "(IIII[I[I[I[I[I[I)I"⟩
abbrev cL_isShot : ByteArray := method_18_code
def yL_isShot : MethodName := ⟨RL, "isShot", "(LTimingLights;III[I[I[I[I[I[I)Z"⟩
abbrev cL_isBest : ByteArray := method_19_code
def yL_isBest : MethodName := ⟨RL, "isBest", "(LTimingLights;I[I[I[I[I)Z"⟩
abbrev cL_isSo : ByteArray := method_20_code
def yL_isSo : MethodName := ⟨RL, "isSo", "(LTimingLights;I[I[I[I[I[I[I)Z"⟩
abbrev cL_told : ByteArray := method_21_code
def yL_told : MethodName := ⟨RL, "told", "(LTimingLights;)J"⟩
abbrev cL_law : ByteArray := code
def yL_law : MethodName := ⟨RL, "law", "([I)Z"⟩
abbrev vwCl : List vw_C := [(RX1, TX1, 3), (RX2, TX2, 8), (RX3, TX3, 1), (RX4, TX4, 1), (RX7, TX7, 7)]
/-- the tables' words that stay: one list for every method -/
def bw : List Cond := lw_tbl.filter goodWord
theorem bw_of {w : Cond} {i : Nat} (h : lw_tbl[i]? = some w) (g : goodWord w = true) : w ∈ bw := List.mem_filter.mpr ⟨List.mem_of_getElem? h, g⟩
theorem bw_hts {args : Array Value} {s : State} (h : ∀ w ∈ lw_tbl, w.before args s = true) : ∀ w ∈ bw, w.before args s = true := fun w hw => h w (List.mem_filter.mp hw).1
theorem bw_good {y : MethodName} {c : ByteArray} {n : Nat} {r : Option FieldType} (h : Cond.code y c n r ∈ bw) : GoodIn bw (Cond.code y c n r :: bw) := by
  have g : ∀ w ∈ bw, w ∈ bw ∧ ((w.onTables && w.keeps) = true ∨ ∃ ty, w = .arrayClass ty) := fun w hw => ⟨hw, good_of_word (List.mem_filter.mp hw).2⟩
  intro w hw
  rcases List.mem_cons.mp hw with e | e
  · rw [e]; exact g _ h
  · exact g _ e
theorem bw_0 : (.selects RX7 yX7_recorded yX7_recorded : Cond) ∈ bw := bw_of (i := 0) (by decide +kernel) rfl
theorem bw_1 : (.initialized RL : Cond) ∈ bw := bw_of (i := 1) (by decide +kernel) rfl
theorem bw_2 : (.initialized RX7 : Cond) ∈ bw := bw_of (i := 2) (by decide +kernel) rfl
theorem bw_3 : (.initialized RX3 : Cond) ∈ bw := bw_of (i := 3) (by decide +kernel) rfl
theorem bw_4 : (.initialized RJ10 : Cond) ∈ bw := bw_of (i := 4) (by decide +kernel) rfl
theorem bw_5 : (.initialized RX2 : Cond) ∈ bw := bw_of (i := 5) (by decide +kernel) rfl
theorem bw_6 : (.initialized RX1 : Cond) ∈ bw := bw_of (i := 6) (by decide +kernel) rfl
theorem bw_7 : (.initialized RX4 : Cond) ∈ bw := bw_of (i := 7) (by decide +kernel) rfl
theorem bw_8 : (.initialized RJ9 : Cond) ∈ bw := bw_of (i := 8) (by decide +kernel) rfl
theorem bw_9 : (.initialized RX5 : Cond) ∈ bw := bw_of (i := 9) (by decide +kernel) rfl
theorem bw_10 : (.initialized RX0 : Cond) ∈ bw := bw_of (i := 10) (by decide +kernel) rfl
theorem bw_11 : (.initialized RX6 : Cond) ∈ bw := bw_of (i := 11) (by decide +kernel) rfl
theorem bw_12 : (.classLink RL 45 "TimingLights" : Cond) ∈ bw := bw_of (i := 12) (by decide +kernel) rfl
theorem bw_13 : (.instantiable RX7 7 : Cond) ∈ bw := bw_of (i := 13) (by decide +kernel) rfl
theorem bw_14 : (.methodLink RL 143 yX7_init : Cond) ∈ bw := bw_of (i := 14) (by decide +kernel) rfl
theorem bw_15 : (.instanceMethod yX7_init : Cond) ∈ bw := bw_of (i := 15) (by decide +kernel) rfl
theorem bw_16 : (.code yX7_init cX7_init 1 (Option.none : Option Jvm.ClassFile.FieldType) : Cond) ∈ bw := bw_of (i := 16) (by decide +kernel) rfl
theorem bw_17 : (.methodLink RX7 1 Lib.objectInit : Cond) ∈ bw := bw_of (i := 17) (by decide +kernel) rfl
theorem bw_18 : (.instanceMethod Lib.objectInit : Cond) ∈ bw := bw_of (i := 18) (by decide +kernel) rfl
theorem bw_19 : (.code Lib.objectInit object_method_1_code 1 (Option.none : Option Jvm.ClassFile.FieldType) : Cond) ∈ bw := bw_of (i := 19) (by decide +kernel) rfl
theorem bw_20 : (.classLink RX7 7 "TimingLights$Reel" : Cond) ∈ bw := bw_of (i := 20) (by decide +kernel) rfl
theorem bw_21 : (.instantiable RX3 1 : Cond) ∈ bw := bw_of (i := 21) (by decide +kernel) rfl
theorem bw_22 : (.methodLink RX7 9 yX3_init : Cond) ∈ bw := bw_of (i := 22) (by decide +kernel) rfl
theorem bw_23 : (.instanceMethod yX3_init : Cond) ∈ bw := bw_of (i := 23) (by decide +kernel) rfl
theorem bw_24 : (.code yX3_init cX3_init 1 (Option.none : Option Jvm.ClassFile.FieldType) : Cond) ∈ bw := bw_of (i := 24) (by decide +kernel) rfl
theorem bw_25 : (.methodLink RX3 5 Lib.objectInit : Cond) ∈ bw := bw_of (i := 25) (by decide +kernel) rfl
theorem bw_28 : (.methodLink RX3 18 arraycopyName : Cond) ∈ bw := bw_of (i := 28) (by decide +kernel) rfl
theorem bw_29 : (.static arraycopyName : Cond) ∈ bw := bw_of (i := 29) (by decide +kernel) rfl
theorem bw_30 : (.native arraycopyName : Cond) ∈ bw := bw_of (i := 30) (by decide +kernel) rfl
theorem bw_31 : (.fieldLink RX3 11 "TimingLights$Reel" "cells" "[I" : Cond) ∈ bw := bw_of (i := 31) (by decide +kernel) rfl
theorem bw_32 : (.laysFinal RX3 "TimingLights$Reel" "cells" "[I" : Cond) ∈ bw := bw_of (i := 32) (by decide +kernel) rfl
theorem bw_35 : (.arrayClass .int : Cond) ∈ bw := bw_of (i := 35) (by decide +kernel) rfl
theorem bw_36 : (.classLink RX7 22 "TimingLights$Pad" : Cond) ∈ bw := bw_of (i := 36) (by decide +kernel) rfl
theorem bw_37 : (.instantiable RX2 8 : Cond) ∈ bw := bw_of (i := 37) (by decide +kernel) rfl
theorem bw_38 : (.methodLink RX7 24 yX2_init : Cond) ∈ bw := bw_of (i := 38) (by decide +kernel) rfl
theorem bw_39 : (.instanceMethod yX2_init : Cond) ∈ bw := bw_of (i := 39) (by decide +kernel) rfl
theorem bw_40 : (.code yX2_init cX2_init 1 (Option.none : Option Jvm.ClassFile.FieldType) : Cond) ∈ bw := bw_of (i := 40) (by decide +kernel) rfl
theorem bw_41 : (.methodLink RX2 3 Lib.objectInit : Cond) ∈ bw := bw_of (i := 41) (by decide +kernel) rfl
theorem bw_42 : (.fieldLink RX2 11 "TimingLights$Pad" "characters" "[C" : Cond) ∈ bw := bw_of (i := 42) (by decide +kernel) rfl
theorem bw_43 : (.fieldLink RX2 15 "TimingLights$Pad" "numbers" "[I" : Cond) ∈ bw := bw_of (i := 43) (by decide +kernel) rfl
theorem bw_44 : (.fieldLink RX2 19 "TimingLights$Pad" "length" "I" : Cond) ∈ bw := bw_of (i := 44) (by decide +kernel) rfl
theorem bw_45 : (.laysFinal RX2 "TimingLights$Pad" "characters" "[C" : Cond) ∈ bw := bw_of (i := 45) (by decide +kernel) rfl
theorem bw_47 : (.laysFinal RX2 "TimingLights$Pad" "numbers" "[I" : Cond) ∈ bw := bw_of (i := 47) (by decide +kernel) rfl
theorem bw_49 : (.lays RX2 "TimingLights$Pad" "length" "I" : Cond) ∈ bw := bw_of (i := 49) (by decide +kernel) rfl
theorem bw_51 : (.lays RX2 "TimingLights$Pad" "at" "I" : Cond) ∈ bw := bw_of (i := 51) (by decide +kernel) rfl
theorem bw_53 : (.lays RX2 "TimingLights$Pad" "numbersRead" "I" : Cond) ∈ bw := bw_of (i := 53) (by decide +kernel) rfl
theorem bw_55 : (.lays RX2 "TimingLights$Pad" "letter" "I" : Cond) ∈ bw := bw_of (i := 55) (by decide +kernel) rfl
theorem bw_57 : (.lays RX2 "TimingLights$Pad" "colour" "I" : Cond) ∈ bw := bw_of (i := 57) (by decide +kernel) rfl
theorem bw_59 : (.lays RX2 "TimingLights$Pad" "minus" "Z" : Cond) ∈ bw := bw_of (i := 59) (by decide +kernel) rfl
theorem bw_62 : (.arrayClass .char : Cond) ∈ bw := bw_of (i := 62) (by decide +kernel) rfl
theorem bw_63 : (.classLink RX7 29 "TimingLights$History" : Cond) ∈ bw := bw_of (i := 63) (by decide +kernel) rfl
theorem bw_64 : (.instantiable RX1 3 : Cond) ∈ bw := bw_of (i := 64) (by decide +kernel) rfl
theorem bw_65 : (.methodLink RX7 31 yX1_init : Cond) ∈ bw := bw_of (i := 65) (by decide +kernel) rfl
theorem bw_66 : (.instanceMethod yX1_init : Cond) ∈ bw := bw_of (i := 66) (by decide +kernel) rfl
theorem bw_67 : (.code yX1_init cX1_init 1 (Option.none : Option Jvm.ClassFile.FieldType) : Cond) ∈ bw := bw_of (i := 67) (by decide +kernel) rfl
theorem bw_68 : (.methodLink RX1 1 Lib.objectInit : Cond) ∈ bw := bw_of (i := 68) (by decide +kernel) rfl
theorem bw_69 : (.classLink RX1 7 "TimingLights$Shelf" : Cond) ∈ bw := bw_of (i := 69) (by decide +kernel) rfl
theorem bw_70 : (.instantiable RX4 1 : Cond) ∈ bw := bw_of (i := 70) (by decide +kernel) rfl
theorem bw_71 : (.methodLink RX1 11 yX4_init : Cond) ∈ bw := bw_of (i := 71) (by decide +kernel) rfl
theorem bw_72 : (.instanceMethod yX4_init : Cond) ∈ bw := bw_of (i := 72) (by decide +kernel) rfl
theorem bw_73 : (.code yX4_init cX4_init 2 (Option.none : Option Jvm.ClassFile.FieldType) : Cond) ∈ bw := bw_of (i := 73) (by decide +kernel) rfl
theorem bw_74 : (.methodLink RX4 1 Lib.objectInit : Cond) ∈ bw := bw_of (i := 74) (by decide +kernel) rfl
theorem bw_75 : (.methodLink RX4 7 Lib.Math.max.name : Cond) ∈ bw := bw_of (i := 75) (by decide +kernel) rfl
theorem bw_76 : (.static Lib.Math.max.name : Cond) ∈ bw := bw_of (i := 76) (by decide +kernel) rfl
theorem bw_77 : (.code Lib.Math.max.name cJ9_max_7cf53 2 (some .int) : Cond) ∈ bw := bw_of (i := 77) (by decide +kernel) rfl
theorem bw_78 : (.fieldLink RX4 15 "TimingLights$Shelf" "rows" "[I" : Cond) ∈ bw := bw_of (i := 78) (by decide +kernel) rfl
theorem bw_79 : (.laysFinal RX4 "TimingLights$Shelf" "rows" "[I" : Cond) ∈ bw := bw_of (i := 79) (by decide +kernel) rfl
theorem bw_82 : (.fieldLink RX1 14 "TimingLights$History" "shelf" "LTimingLights$Shelf;" : Cond) ∈ bw := bw_of (i := 82) (by decide +kernel) rfl
theorem bw_83 : (.fieldLink RX1 22 "TimingLights$History" "oldest" "I" : Cond) ∈ bw := bw_of (i := 83) (by decide +kernel) rfl
theorem bw_84 : (.fieldLink RX1 18 "TimingLights$History" "size" "I" : Cond) ∈ bw := bw_of (i := 84) (by decide +kernel) rfl
theorem bw_85 : (.laysFinal RX1 "TimingLights$History" "shelf" "LTimingLights$Shelf;" : Cond) ∈ bw := bw_of (i := 85) (by decide +kernel) rfl
theorem bw_87 : (.lays RX1 "TimingLights$History" "oldest" "I" : Cond) ∈ bw := bw_of (i := 87) (by decide +kernel) rfl
theorem bw_89 : (.lays RX1 "TimingLights$History" "size" "I" : Cond) ∈ bw := bw_of (i := 89) (by decide +kernel) rfl
theorem bw_92 : (.classLink RX7 36 "TimingLights$Shelf" : Cond) ∈ bw := bw_of (i := 92) (by decide +kernel) rfl
theorem bw_93 : (.methodLink RX7 38 yX4_init : Cond) ∈ bw := bw_of (i := 93) (by decide +kernel) rfl
theorem bw_94 : (.fieldLink RX7 10 "TimingLights" "reel" "LTimingLights$Reel;" : Cond) ∈ bw := bw_of (i := 94) (by decide +kernel) rfl
theorem bw_95 : (.fieldLink RX7 16 "TimingLights" "before" "LTimingLights$Reel;" : Cond) ∈ bw := bw_of (i := 95) (by decide +kernel) rfl
theorem bw_96 : (.fieldLink RX7 19 "TimingLights" "trial" "LTimingLights$Reel;" : Cond) ∈ bw := bw_of (i := 96) (by decide +kernel) rfl
theorem bw_97 : (.fieldLink RX7 25 "TimingLights" "pad" "LTimingLights$Pad;" : Cond) ∈ bw := bw_of (i := 97) (by decide +kernel) rfl
theorem bw_98 : (.fieldLink RX7 32 "TimingLights" "history" "LTimingLights$History;" : Cond) ∈ bw := bw_of (i := 98) (by decide +kernel) rfl
theorem bw_99 : (.fieldLink RX7 41 "TimingLights" "slots" "LTimingLights$Shelf;" : Cond) ∈ bw := bw_of (i := 99) (by decide +kernel) rfl
theorem bw_100 : (.laysFinal RX7 "TimingLights" "reel" "LTimingLights$Reel;" : Cond) ∈ bw := bw_of (i := 100) (by decide +kernel) rfl
theorem bw_102 : (.laysFinal RX7 "TimingLights" "before" "LTimingLights$Reel;" : Cond) ∈ bw := bw_of (i := 102) (by decide +kernel) rfl
theorem bw_104 : (.laysFinal RX7 "TimingLights" "trial" "LTimingLights$Reel;" : Cond) ∈ bw := bw_of (i := 104) (by decide +kernel) rfl
theorem bw_106 : (.laysFinal RX7 "TimingLights" "pad" "LTimingLights$Pad;" : Cond) ∈ bw := bw_of (i := 106) (by decide +kernel) rfl
theorem bw_108 : (.laysFinal RX7 "TimingLights" "history" "LTimingLights$History;" : Cond) ∈ bw := bw_of (i := 108) (by decide +kernel) rfl
theorem bw_110 : (.laysFinal RX7 "TimingLights" "slots" "LTimingLights$Shelf;" : Cond) ∈ bw := bw_of (i := 110) (by decide +kernel) rfl
theorem bw_112 : (.lays RX7 "TimingLights" "slotsFilled" "I" : Cond) ∈ bw := bw_of (i := 112) (by decide +kernel) rfl
theorem bw_115 : (.methodLink RL 156 yX7_undo : Cond) ∈ bw := bw_of (i := 115) (by decide +kernel) rfl
theorem bw_116 : (.instanceMethod yX7_undo : Cond) ∈ bw := bw_of (i := 116) (by decide +kernel) rfl
theorem bw_117 : (.selects RX7 yX7_undo yX7_undo : Cond) ∈ bw := bw_of (i := 117) (by decide +kernel) rfl
theorem bw_118 : (.code yX7_undo cX7_undo 1 (some .int) : Cond) ∈ bw := bw_of (i := 118) (by decide +kernel) rfl
theorem bw_119 : (.methodLink RX7 150 yX1_size : Cond) ∈ bw := bw_of (i := 119) (by decide +kernel) rfl
theorem bw_120 : (.instanceMethod yX1_size : Cond) ∈ bw := bw_of (i := 120) (by decide +kernel) rfl
theorem bw_121 : (.selects RX1 yX1_size yX1_size : Cond) ∈ bw := bw_of (i := 121) (by decide +kernel) rfl
theorem bw_122 : (.code yX1_size cX1_size 1 (some .int) : Cond) ∈ bw := bw_of (i := 122) (by decide +kernel) rfl
theorem bw_123 : (.methodLink RX7 201 yX1_takeBack : Cond) ∈ bw := bw_of (i := 123) (by decide +kernel) rfl
theorem bw_124 : (.instanceMethod yX1_takeBack : Cond) ∈ bw := bw_of (i := 124) (by decide +kernel) rfl
theorem bw_125 : (.selects RX1 yX1_takeBack yX1_takeBack : Cond) ∈ bw := bw_of (i := 125) (by decide +kernel) rfl
theorem bw_126 : (.code yX1_takeBack cX1_takeBack 2 (Option.none : Option Jvm.ClassFile.FieldType) : Cond) ∈ bw := bw_of (i := 126) (by decide +kernel) rfl
theorem bw_127 : (.methodLink RX1 29 yX4_give : Cond) ∈ bw := bw_of (i := 127) (by decide +kernel) rfl
theorem bw_128 : (.instanceMethod yX4_give : Cond) ∈ bw := bw_of (i := 128) (by decide +kernel) rfl
theorem bw_129 : (.selects RX4 yX4_give yX4_give : Cond) ∈ bw := bw_of (i := 129) (by decide +kernel) rfl
theorem bw_130 : (.code yX4_give cX4_give 3 (Option.none : Option Jvm.ClassFile.FieldType) : Cond) ∈ bw := bw_of (i := 130) (by decide +kernel) rfl
theorem bw_131 : (.methodLink RX4 25 yX3_readFrom : Cond) ∈ bw := bw_of (i := 131) (by decide +kernel) rfl
theorem bw_132 : (.instanceMethod yX3_readFrom : Cond) ∈ bw := bw_of (i := 132) (by decide +kernel) rfl
theorem bw_133 : (.selects RX3 yX3_readFrom yX3_readFrom : Cond) ∈ bw := bw_of (i := 133) (by decide +kernel) rfl
theorem bw_134 : (.code yX3_readFrom cX3_readFrom 3 (Option.none : Option Jvm.ClassFile.FieldType) : Cond) ∈ bw := bw_of (i := 134) (by decide +kernel) rfl
theorem bw_135 : (.methodLink RL 144 yL_cell : Cond) ∈ bw := bw_of (i := 135) (by decide +kernel) rfl
theorem bw_136 : (.static yL_cell : Cond) ∈ bw := bw_of (i := 136) (by decide +kernel) rfl
theorem bw_137 : (.code yL_cell cL_cell 2 (some .int) : Cond) ∈ bw := bw_of (i := 137) (by decide +kernel) rfl
theorem bw_138 : (.constant "TimingLightsLaw" 7 41351 : Cond) ∈ bw := bw_of (i := 138) (by decide +kernel) rfl
theorem bw_139 : (.constant "TimingLightsLaw" 8 2789213 : Cond) ∈ bw := bw_of (i := 139) (by decide +kernel) rfl
theorem bw_140 : (.methodLink RL 40 yL_low : Cond) ∈ bw := bw_of (i := 140) (by decide +kernel) rfl
theorem bw_141 : (.static yL_low : Cond) ∈ bw := bw_of (i := 141) (by decide +kernel) rfl
theorem bw_142 : (.code yL_low cL_low 2 (some .int) : Cond) ∈ bw := bw_of (i := 142) (by decide +kernel) rfl
theorem bw_143 : (.constant "TimingLightsLaw" 9 2147483647 : Cond) ∈ bw := bw_of (i := 143) (by decide +kernel) rfl
theorem bw_144 : (.methodLink RL 152 yL_call : Cond) ∈ bw := bw_of (i := 144) (by decide +kernel) rfl
theorem bw_145 : (.static yL_call : Cond) ∈ bw := bw_of (i := 145) (by decide +kernel) rfl
theorem bw_146 : (.code yL_call cL_call 5 (some .int) : Cond) ∈ bw := bw_of (i := 146) (by decide +kernel) rfl
theorem bw_147 : (.methodLink RL 44 yX7_shot : Cond) ∈ bw := bw_of (i := 147) (by decide +kernel) rfl
theorem bw_148 : (.instanceMethod yX7_shot : Cond) ∈ bw := bw_of (i := 148) (by decide +kernel) rfl
theorem bw_149 : (.selects RX7 yX7_shot yX7_shot : Cond) ∈ bw := bw_of (i := 149) (by decide +kernel) rfl
theorem bw_150 : (.code yX7_shot cX7_shot 6 (some .int) : Cond) ∈ bw := bw_of (i := 150) (by decide +kernel) rfl
theorem bw_151 : (.methodLink RX7 45 yX3_become : Cond) ∈ bw := bw_of (i := 151) (by decide +kernel) rfl
theorem bw_152 : (.instanceMethod yX3_become : Cond) ∈ bw := bw_of (i := 152) (by decide +kernel) rfl
theorem bw_153 : (.selects RX3 yX3_become yX3_become : Cond) ∈ bw := bw_of (i := 153) (by decide +kernel) rfl
theorem bw_154 : (.code yX3_become cX3_become 2 (Option.none : Option Jvm.ClassFile.FieldType) : Cond) ∈ bw := bw_of (i := 154) (by decide +kernel) rfl
theorem bw_155 : (.methodLink RX7 59 yX0_addShot : Cond) ∈ bw := bw_of (i := 155) (by decide +kernel) rfl
theorem bw_156 : (.static yX0_addShot : Cond) ∈ bw := bw_of (i := 156) (by decide +kernel) rfl
theorem bw_157 : (.code yX0_addShot cX0_addShot 7 (some .int) : Cond) ∈ bw := bw_of (i := 157) (by decide +kernel) rfl
theorem bw_158 : (.methodLink RX0 28 yX3_shots : Cond) ∈ bw := bw_of (i := 158) (by decide +kernel) rfl
theorem bw_159 : (.instanceMethod yX3_shots : Cond) ∈ bw := bw_of (i := 159) (by decide +kernel) rfl
theorem bw_160 : (.selects RX3 yX3_shots yX3_shots : Cond) ∈ bw := bw_of (i := 160) (by decide +kernel) rfl
theorem bw_161 : (.code yX3_shots cX3_shots 1 (some .int) : Cond) ∈ bw := bw_of (i := 161) (by decide +kernel) rfl
theorem bw_162 : (.methodLink RX3 24 yX3_read : Cond) ∈ bw := bw_of (i := 162) (by decide +kernel) rfl
theorem bw_163 : (.instanceMethod yX3_read : Cond) ∈ bw := bw_of (i := 163) (by decide +kernel) rfl
theorem bw_164 : (.selects RX3 yX3_read yX3_read : Cond) ∈ bw := bw_of (i := 164) (by decide +kernel) rfl
theorem bw_165 : (.code yX3_read cX3_read 2 (some .int) : Cond) ∈ bw := bw_of (i := 165) (by decide +kernel) rfl
theorem bw_167 : (.static yX7_isWithin : Cond) ∈ bw := bw_of (i := 167) (by decide +kernel) rfl
theorem bw_168 : (.code yX7_isWithin cX7_isWithin 3 (some .boolean) : Cond) ∈ bw := bw_of (i := 168) (by decide +kernel) rfl
theorem bw_170 : (.static yX7_isPoints : Cond) ∈ bw := bw_of (i := 170) (by decide +kernel) rfl
theorem bw_171 : (.code yX7_isPoints cX7_isPoints 1 (some .boolean) : Cond) ∈ bw := bw_of (i := 171) (by decide +kernel) rfl
theorem bw_172 : (.methodLink RX7 168 yX7_isWithin : Cond) ∈ bw := bw_of (i := 172) (by decide +kernel) rfl
theorem bw_173 : (.methodLink RX0 36 yX3_openPlace : Cond) ∈ bw := bw_of (i := 173) (by decide +kernel) rfl
theorem bw_174 : (.instanceMethod yX3_openPlace : Cond) ∈ bw := bw_of (i := 174) (by decide +kernel) rfl
theorem bw_175 : (.selects RX3 yX3_openPlace yX3_openPlace : Cond) ∈ bw := bw_of (i := 175) (by decide +kernel) rfl
theorem bw_176 : (.code yX3_openPlace cX3_openPlace 3 (Option.none : Option Jvm.ClassFile.FieldType) : Cond) ∈ bw := bw_of (i := 176) (by decide +kernel) rfl
theorem bw_177 : (.methodLink RX3 28 yX3_shots : Cond) ∈ bw := bw_of (i := 177) (by decide +kernel) rfl
theorem bw_178 : (.methodLink RX3 32 Lib.Math.min.name : Cond) ∈ bw := bw_of (i := 178) (by decide +kernel) rfl
theorem bw_179 : (.static Lib.Math.min.name : Cond) ∈ bw := bw_of (i := 179) (by decide +kernel) rfl
theorem bw_180 : (.code Lib.Math.min.name cJ9_min_7cf53 2 (some .int) : Cond) ∈ bw := bw_of (i := 180) (by decide +kernel) rfl
theorem bw_181 : (.methodLink RX3 38 yX3_copyShot : Cond) ∈ bw := bw_of (i := 181) (by decide +kernel) rfl
theorem bw_182 : (.instanceMethod yX3_copyShot : Cond) ∈ bw := bw_of (i := 182) (by decide +kernel) rfl
theorem bw_183 : (.selects RX3 yX3_copyShot yX3_copyShot : Cond) ∈ bw := bw_of (i := 183) (by decide +kernel) rfl
theorem bw_184 : (.code yX3_copyShot cX3_copyShot 4 (Option.none : Option Jvm.ClassFile.FieldType) : Cond) ∈ bw := bw_of (i := 184) (by decide +kernel) rfl
theorem bw_185 : (.methodLink RX3 45 yX3_readShot : Cond) ∈ bw := bw_of (i := 185) (by decide +kernel) rfl
theorem bw_186 : (.instanceMethod yX3_readShot : Cond) ∈ bw := bw_of (i := 186) (by decide +kernel) rfl
theorem bw_187 : (.selects RX3 yX3_readShot yX3_readShot : Cond) ∈ bw := bw_of (i := 187) (by decide +kernel) rfl
theorem bw_188 : (.code yX3_readShot cX3_readShot 4 (some .int) : Cond) ∈ bw := bw_of (i := 188) (by decide +kernel) rfl
theorem bw_189 : (.methodLink RX3 48 yX3_writeShot : Cond) ∈ bw := bw_of (i := 189) (by decide +kernel) rfl
theorem bw_190 : (.instanceMethod yX3_writeShot : Cond) ∈ bw := bw_of (i := 190) (by decide +kernel) rfl
theorem bw_191 : (.selects RX3 yX3_writeShot yX3_writeShot : Cond) ∈ bw := bw_of (i := 191) (by decide +kernel) rfl
theorem bw_192 : (.code yX3_writeShot cX3_writeShot 5 (Option.none : Option Jvm.ClassFile.FieldType) : Cond) ∈ bw := bw_of (i := 192) (by decide +kernel) rfl
theorem bw_193 : (.methodLink RX3 42 yX3_write : Cond) ∈ bw := bw_of (i := 193) (by decide +kernel) rfl
theorem bw_194 : (.instanceMethod yX3_write : Cond) ∈ bw := bw_of (i := 194) (by decide +kernel) rfl
theorem bw_195 : (.selects RX3 yX3_write yX3_write : Cond) ∈ bw := bw_of (i := 195) (by decide +kernel) rfl
theorem bw_196 : (.code yX3_write cX3_write 3 (Option.none : Option Jvm.ClassFile.FieldType) : Cond) ∈ bw := bw_of (i := 196) (by decide +kernel) rfl
theorem bw_197 : (.methodLink RX0 40 yX3_writeShot : Cond) ∈ bw := bw_of (i := 197) (by decide +kernel) rfl
theorem bw_198 : (.methodLink RX7 55 yX7_recorded : Cond) ∈ bw := bw_of (i := 198) (by decide +kernel) rfl
theorem bw_200 : (.instanceMethod yX7_recorded : Cond) ∈ bw := bw_of (i := 200) (by decide +kernel) rfl
theorem bw_201 : (.code yX7_recorded cX7_recorded 2 (some .int) : Cond) ∈ bw := bw_of (i := 201) (by decide +kernel) rfl
theorem bw_202 : (.methodLink RX7 218 yX1_record : Cond) ∈ bw := bw_of (i := 202) (by decide +kernel) rfl
theorem bw_203 : (.instanceMethod yX1_record : Cond) ∈ bw := bw_of (i := 203) (by decide +kernel) rfl
theorem bw_204 : (.selects RX1 yX1_record yX1_record : Cond) ∈ bw := bw_of (i := 204) (by decide +kernel) rfl
theorem bw_205 : (.code yX1_record cX1_record 2 (Option.none : Option Jvm.ClassFile.FieldType) : Cond) ∈ bw := bw_of (i := 205) (by decide +kernel) rfl
theorem bw_206 : (.methodLink RX1 25 yX4_keep : Cond) ∈ bw := bw_of (i := 206) (by decide +kernel) rfl
theorem bw_207 : (.instanceMethod yX4_keep : Cond) ∈ bw := bw_of (i := 207) (by decide +kernel) rfl
theorem bw_208 : (.selects RX4 yX4_keep yX4_keep : Cond) ∈ bw := bw_of (i := 208) (by decide +kernel) rfl
theorem bw_209 : (.code yX4_keep cX4_keep 3 (Option.none : Option Jvm.ClassFile.FieldType) : Cond) ∈ bw := bw_of (i := 209) (by decide +kernel) rfl
theorem bw_210 : (.methodLink RX4 21 yX3_writeTo : Cond) ∈ bw := bw_of (i := 210) (by decide +kernel) rfl
theorem bw_211 : (.instanceMethod yX3_writeTo : Cond) ∈ bw := bw_of (i := 211) (by decide +kernel) rfl
theorem bw_212 : (.selects RX3 yX3_writeTo yX3_writeTo : Cond) ∈ bw := bw_of (i := 212) (by decide +kernel) rfl
theorem bw_213 : (.code yX3_writeTo cX3_writeTo 3 (Option.none : Option Jvm.ClassFile.FieldType) : Cond) ∈ bw := bw_of (i := 213) (by decide +kernel) rfl
theorem bw_214 : (.methodLink RL 50 yX7_light : Cond) ∈ bw := bw_of (i := 214) (by decide +kernel) rfl
theorem bw_215 : (.instanceMethod yX7_light : Cond) ∈ bw := bw_of (i := 215) (by decide +kernel) rfl
theorem bw_216 : (.selects RX7 yX7_light yX7_light : Cond) ∈ bw := bw_of (i := 216) (by decide +kernel) rfl
theorem bw_217 : (.code yX7_light cX7_light 4 (some .int) : Cond) ∈ bw := bw_of (i := 217) (by decide +kernel) rfl
theorem bw_218 : (.methodLink RX7 67 yX0_changeLight : Cond) ∈ bw := bw_of (i := 218) (by decide +kernel) rfl
theorem bw_219 : (.static yX0_changeLight : Cond) ∈ bw := bw_of (i := 219) (by decide +kernel) rfl
theorem bw_220 : (.code yX0_changeLight cX0_changeLight 5 (some .int) : Cond) ∈ bw := bw_of (i := 220) (by decide +kernel) rfl
theorem bw_221 : (.methodLink RX0 44 yX3_hasShot : Cond) ∈ bw := bw_of (i := 221) (by decide +kernel) rfl
theorem bw_222 : (.instanceMethod yX3_hasShot : Cond) ∈ bw := bw_of (i := 222) (by decide +kernel) rfl
theorem bw_223 : (.selects RX3 yX3_hasShot yX3_hasShot : Cond) ∈ bw := bw_of (i := 223) (by decide +kernel) rfl
theorem bw_224 : (.code yX3_hasShot cX3_hasShot 2 (some .boolean) : Cond) ∈ bw := bw_of (i := 224) (by decide +kernel) rfl
theorem bw_226 : (.static yX7_isColour : Cond) ∈ bw := bw_of (i := 226) (by decide +kernel) rfl
theorem bw_227 : (.code yX7_isColour cX7_isColour 1 (some .boolean) : Cond) ∈ bw := bw_of (i := 227) (by decide +kernel) rfl
theorem bw_228 : (.methodLink RX0 53 yX3_readShot : Cond) ∈ bw := bw_of (i := 228) (by decide +kernel) rfl
theorem bw_229 : (.methodLink RL 54 yX7_wish : Cond) ∈ bw := bw_of (i := 229) (by decide +kernel) rfl
theorem bw_230 : (.instanceMethod yX7_wish : Cond) ∈ bw := bw_of (i := 230) (by decide +kernel) rfl
theorem bw_231 : (.selects RX7 yX7_wish yX7_wish : Cond) ∈ bw := bw_of (i := 231) (by decide +kernel) rfl
theorem bw_232 : (.code yX7_wish cX7_wish 4 (some .int) : Cond) ∈ bw := bw_of (i := 232) (by decide +kernel) rfl
theorem bw_233 : (.methodLink RX7 71 yX0_changeWish : Cond) ∈ bw := bw_of (i := 233) (by decide +kernel) rfl
theorem bw_234 : (.static yX0_changeWish : Cond) ∈ bw := bw_of (i := 234) (by decide +kernel) rfl
theorem bw_235 : (.code yX0_changeWish cX0_changeWish 5 (some .int) : Cond) ∈ bw := bw_of (i := 235) (by decide +kernel) rfl
theorem bw_236 : (.methodLink RL 57 yX7_move : Cond) ∈ bw := bw_of (i := 236) (by decide +kernel) rfl
theorem bw_237 : (.instanceMethod yX7_move : Cond) ∈ bw := bw_of (i := 237) (by decide +kernel) rfl
theorem bw_238 : (.selects RX7 yX7_move yX7_move : Cond) ∈ bw := bw_of (i := 238) (by decide +kernel) rfl
theorem bw_239 : (.code yX7_move cX7_move 3 (some .int) : Cond) ∈ bw := bw_of (i := 239) (by decide +kernel) rfl
theorem bw_240 : (.methodLink RX7 74 yX0_moveShot : Cond) ∈ bw := bw_of (i := 240) (by decide +kernel) rfl
theorem bw_241 : (.static yX0_moveShot : Cond) ∈ bw := bw_of (i := 241) (by decide +kernel) rfl
theorem bw_242 : (.code yX0_moveShot cX0_moveShot 4 (some .int) : Cond) ∈ bw := bw_of (i := 242) (by decide +kernel) rfl
theorem bw_243 : (.methodLink RX0 57 yX3_swapShots : Cond) ∈ bw := bw_of (i := 243) (by decide +kernel) rfl
theorem bw_244 : (.instanceMethod yX3_swapShots : Cond) ∈ bw := bw_of (i := 244) (by decide +kernel) rfl
theorem bw_245 : (.selects RX3 yX3_swapShots yX3_swapShots : Cond) ∈ bw := bw_of (i := 245) (by decide +kernel) rfl
theorem bw_246 : (.code yX3_swapShots cX3_swapShots 5 (Option.none : Option Jvm.ClassFile.FieldType) : Cond) ∈ bw := bw_of (i := 246) (by decide +kernel) rfl
theorem bw_247 : (.methodLink RX0 61 Lib.Math.abs.name : Cond) ∈ bw := bw_of (i := 247) (by decide +kernel) rfl
theorem bw_248 : (.static Lib.Math.abs.name : Cond) ∈ bw := bw_of (i := 248) (by decide +kernel) rfl
theorem bw_249 : (.code Lib.Math.abs.name cJ9_abs_0f7a4 1 (some .int) : Cond) ∈ bw := bw_of (i := 249) (by decide +kernel) rfl
theorem bw_250 : (.methodLink RL 60 yX7_split : Cond) ∈ bw := bw_of (i := 250) (by decide +kernel) rfl
theorem bw_251 : (.instanceMethod yX7_split : Cond) ∈ bw := bw_of (i := 251) (by decide +kernel) rfl
theorem bw_252 : (.selects RX7 yX7_split yX7_split : Cond) ∈ bw := bw_of (i := 252) (by decide +kernel) rfl
theorem bw_253 : (.code yX7_split cX7_split 3 (some .int) : Cond) ∈ bw := bw_of (i := 253) (by decide +kernel) rfl
theorem bw_254 : (.methodLink RX7 77 yX0_splitShot : Cond) ∈ bw := bw_of (i := 254) (by decide +kernel) rfl
theorem bw_255 : (.static yX0_splitShot : Cond) ∈ bw := bw_of (i := 255) (by decide +kernel) rfl
theorem bw_256 : (.code yX0_splitShot cX0_splitShot 4 (some .int) : Cond) ∈ bw := bw_of (i := 256) (by decide +kernel) rfl
theorem bw_257 : (.methodLink RL 63 yX7_join : Cond) ∈ bw := bw_of (i := 257) (by decide +kernel) rfl
theorem bw_258 : (.instanceMethod yX7_join : Cond) ∈ bw := bw_of (i := 258) (by decide +kernel) rfl
theorem bw_259 : (.selects RX7 yX7_join yX7_join : Cond) ∈ bw := bw_of (i := 259) (by decide +kernel) rfl
theorem bw_260 : (.code yX7_join cX7_join 2 (some .int) : Cond) ∈ bw := bw_of (i := 260) (by decide +kernel) rfl
theorem bw_261 : (.methodLink RX7 80 yX0_joinShots : Cond) ∈ bw := bw_of (i := 261) (by decide +kernel) rfl
theorem bw_262 : (.static yX0_joinShots : Cond) ∈ bw := bw_of (i := 262) (by decide +kernel) rfl
theorem bw_263 : (.code yX0_joinShots cX0_joinShots 3 (some .int) : Cond) ∈ bw := bw_of (i := 263) (by decide +kernel) rfl
theorem bw_264 : (.methodLink RX0 67 yX0_isSameStock : Cond) ∈ bw := bw_of (i := 264) (by decide +kernel) rfl
theorem bw_265 : (.static yX0_isSameStock : Cond) ∈ bw := bw_of (i := 265) (by decide +kernel) rfl
theorem bw_266 : (.code yX0_isSameStock cX0_isSameStock 4 (some .boolean) : Cond) ∈ bw := bw_of (i := 266) (by decide +kernel) rfl
theorem bw_267 : (.methodLink RX0 47 yX3_closePlace : Cond) ∈ bw := bw_of (i := 267) (by decide +kernel) rfl
theorem bw_268 : (.instanceMethod yX3_closePlace : Cond) ∈ bw := bw_of (i := 268) (by decide +kernel) rfl
theorem bw_269 : (.selects RX3 yX3_closePlace yX3_closePlace : Cond) ∈ bw := bw_of (i := 269) (by decide +kernel) rfl
theorem bw_270 : (.code yX3_closePlace cX3_closePlace 3 (Option.none : Option Jvm.ClassFile.FieldType) : Cond) ∈ bw := bw_of (i := 270) (by decide +kernel) rfl
theorem bw_271 : (.methodLink RL 66 yX7_print : Cond) ∈ bw := bw_of (i := 271) (by decide +kernel) rfl
theorem bw_272 : (.instanceMethod yX7_print : Cond) ∈ bw := bw_of (i := 272) (by decide +kernel) rfl
theorem bw_273 : (.selects RX7 yX7_print yX7_print : Cond) ∈ bw := bw_of (i := 273) (by decide +kernel) rfl
theorem bw_274 : (.code yX7_print cX7_print 1 (some .int) : Cond) ∈ bw := bw_of (i := 274) (by decide +kernel) rfl
theorem bw_275 : (.methodLink RX7 83 yX0_makePrint : Cond) ∈ bw := bw_of (i := 275) (by decide +kernel) rfl
theorem bw_276 : (.static yX0_makePrint : Cond) ∈ bw := bw_of (i := 276) (by decide +kernel) rfl
theorem bw_277 : (.code yX0_makePrint cX0_makePrint 3 (some .int) : Cond) ∈ bw := bw_of (i := 277) (by decide +kernel) rfl
theorem bw_278 : (.methodLink RX0 71 yX0_hoursOfPrint : Cond) ∈ bw := bw_of (i := 278) (by decide +kernel) rfl
theorem bw_279 : (.static yX0_hoursOfPrint : Cond) ∈ bw := bw_of (i := 279) (by decide +kernel) rfl
theorem bw_280 : (.code yX0_hoursOfPrint cX0_hoursOfPrint 1 (some .int) : Cond) ∈ bw := bw_of (i := 280) (by decide +kernel) rfl
theorem bw_281 : (.methodLink RX0 94 yX5_feetBefore : Cond) ∈ bw := bw_of (i := 281) (by decide +kernel) rfl
theorem bw_282 : (.static yX5_feetBefore : Cond) ∈ bw := bw_of (i := 282) (by decide +kernel) rfl
theorem bw_283 : (.code yX5_feetBefore cX5_feetBefore 4 (some .int) : Cond) ∈ bw := bw_of (i := 283) (by decide +kernel) rfl
theorem bw_284 : (.methodLink RX5 11 yX3_readShot : Cond) ∈ bw := bw_of (i := 284) (by decide +kernel) rfl
theorem bw_285 : (.methodLink RX0 75 yX3_read : Cond) ∈ bw := bw_of (i := 285) (by decide +kernel) rfl
theorem bw_286 : (.methodLink RX0 78 yX0_runPrinter : Cond) ∈ bw := bw_of (i := 286) (by decide +kernel) rfl
theorem bw_287 : (.static yX0_runPrinter : Cond) ∈ bw := bw_of (i := 287) (by decide +kernel) rfl
theorem bw_288 : (.code yX0_runPrinter cX0_runPrinter 5 (some .int) : Cond) ∈ bw := bw_of (i := 288) (by decide +kernel) rfl
theorem bw_289 : (.methodLink RX0 81 yX5_offWith : Cond) ∈ bw := bw_of (i := 289) (by decide +kernel) rfl
theorem bw_290 : (.static yX5_offWith : Cond) ∈ bw := bw_of (i := 290) (by decide +kernel) rfl
theorem bw_291 : (.code yX5_offWith cX5_offWith 6 (some .int) : Cond) ∈ bw := bw_of (i := 291) (by decide +kernel) rfl
theorem bw_292 : (.methodLink RX5 25 yX5_printsWith : Cond) ∈ bw := bw_of (i := 292) (by decide +kernel) rfl
theorem bw_293 : (.static yX5_printsWith : Cond) ∈ bw := bw_of (i := 293) (by decide +kernel) rfl
theorem bw_294 : (.code yX5_printsWith cX5_printsWith 6 (some .int) : Cond) ∈ bw := bw_of (i := 294) (by decide +kernel) rfl
theorem bw_295 : (.methodLink RX5 15 yX3_lampLoss : Cond) ∈ bw := bw_of (i := 295) (by decide +kernel) rfl
theorem bw_296 : (.instanceMethod yX3_lampLoss : Cond) ∈ bw := bw_of (i := 296) (by decide +kernel) rfl
theorem bw_297 : (.selects RX3 yX3_lampLoss yX3_lampLoss : Cond) ∈ bw := bw_of (i := 297) (by decide +kernel) rfl
theorem bw_298 : (.code yX3_lampLoss cX3_lampLoss 2 (some .int) : Cond) ∈ bw := bw_of (i := 298) (by decide +kernel) rfl
theorem bw_300 : (.static yX7_bounded : Cond) ∈ bw := bw_of (i := 300) (by decide +kernel) rfl
theorem bw_301 : (.code yX7_bounded cX7_bounded 1 (some .int) : Cond) ∈ bw := bw_of (i := 301) (by decide +kernel) rfl
theorem bw_302 : (.methodLink RX0 87 yX5_isBad : Cond) ∈ bw := bw_of (i := 302) (by decide +kernel) rfl
theorem bw_303 : (.static yX5_isBad : Cond) ∈ bw := bw_of (i := 303) (by decide +kernel) rfl
theorem bw_304 : (.code yX5_isBad cX5_isBad 4 (some .boolean) : Cond) ∈ bw := bw_of (i := 304) (by decide +kernel) rfl
theorem bw_305 : (.methodLink RX5 35 Lib.Math.abs.name : Cond) ∈ bw := bw_of (i := 305) (by decide +kernel) rfl
theorem bw_306 : (.methodLink RX5 40 Lib.Math.max.name : Cond) ∈ bw := bw_of (i := 306) (by decide +kernel) rfl
theorem bw_307 : (.methodLink RX5 43 yX5_isAnswered : Cond) ∈ bw := bw_of (i := 307) (by decide +kernel) rfl
theorem bw_308 : (.static yX5_isAnswered : Cond) ∈ bw := bw_of (i := 308) (by decide +kernel) rfl
theorem bw_309 : (.code yX5_isAnswered cX5_isAnswered 2 (some .boolean) : Cond) ∈ bw := bw_of (i := 309) (by decide +kernel) rfl
theorem bw_310 : (.methodLink RX5 22 yX3_read : Cond) ∈ bw := bw_of (i := 310) (by decide +kernel) rfl
theorem bw_311 : (.methodLink RX0 91 yX3_write : Cond) ∈ bw := bw_of (i := 311) (by decide +kernel) rfl
theorem bw_312 : (.methodLink RL 70 yX7_correct : Cond) ∈ bw := bw_of (i := 312) (by decide +kernel) rfl
theorem bw_313 : (.instanceMethod yX7_correct : Cond) ∈ bw := bw_of (i := 313) (by decide +kernel) rfl
theorem bw_314 : (.selects RX7 yX7_correct yX7_correct : Cond) ∈ bw := bw_of (i := 314) (by decide +kernel) rfl
theorem bw_315 : (.code yX7_correct cX7_correct 2 (some .int) : Cond) ∈ bw := bw_of (i := 315) (by decide +kernel) rfl
theorem bw_316 : (.methodLink RX7 87 yX0_correctShot : Cond) ∈ bw := bw_of (i := 316) (by decide +kernel) rfl
theorem bw_317 : (.static yX0_correctShot : Cond) ∈ bw := bw_of (i := 317) (by decide +kernel) rfl
theorem bw_318 : (.code yX0_correctShot cX0_correctShot 4 (some .int) : Cond) ∈ bw := bw_of (i := 318) (by decide +kernel) rfl
theorem bw_319 : (.methodLink RX0 98 yX5_isAnswered : Cond) ∈ bw := bw_of (i := 319) (by decide +kernel) rfl
theorem bw_320 : (.methodLink RX0 101 yX0_correctLight : Cond) ∈ bw := bw_of (i := 320) (by decide +kernel) rfl
theorem bw_321 : (.static yX0_correctLight : Cond) ∈ bw := bw_of (i := 321) (by decide +kernel) rfl
theorem bw_322 : (.code yX0_correctLight cX0_correctLight 8 (some .int) : Cond) ∈ bw := bw_of (i := 322) (by decide +kernel) rfl
theorem bw_323 : (.methodLink RX0 104 Lib.Math.max.name : Cond) ∈ bw := bw_of (i := 323) (by decide +kernel) rfl
theorem bw_325 : (.methodLink RL 73 yX7_correctAll : Cond) ∈ bw := bw_of (i := 325) (by decide +kernel) rfl
theorem bw_326 : (.instanceMethod yX7_correctAll : Cond) ∈ bw := bw_of (i := 326) (by decide +kernel) rfl
theorem bw_327 : (.selects RX7 yX7_correctAll yX7_correctAll : Cond) ∈ bw := bw_of (i := 327) (by decide +kernel) rfl
theorem bw_328 : (.code yX7_correctAll cX7_correctAll 1 (some .int) : Cond) ∈ bw := bw_of (i := 328) (by decide +kernel) rfl
theorem bw_329 : (.methodLink RX7 90 yX0_correctBadShots : Cond) ∈ bw := bw_of (i := 329) (by decide +kernel) rfl
theorem bw_330 : (.static yX0_correctBadShots : Cond) ∈ bw := bw_of (i := 330) (by decide +kernel) rfl
theorem bw_331 : (.code yX0_correctBadShots cX0_correctBadShots 3 (some .int) : Cond) ∈ bw := bw_of (i := 331) (by decide +kernel) rfl
theorem bw_332 : (.methodLink RX0 110 yX0_correctShot : Cond) ∈ bw := bw_of (i := 332) (by decide +kernel) rfl
theorem bw_333 : (.methodLink RL 76 yX7_card : Cond) ∈ bw := bw_of (i := 333) (by decide +kernel) rfl
theorem bw_334 : (.instanceMethod yX7_card : Cond) ∈ bw := bw_of (i := 334) (by decide +kernel) rfl
theorem bw_335 : (.selects RX7 yX7_card yX7_card : Cond) ∈ bw := bw_of (i := 335) (by decide +kernel) rfl
theorem bw_336 : (.code yX7_card cX7_card 1 (some .int) : Cond) ∈ bw := bw_of (i := 336) (by decide +kernel) rfl
theorem bw_337 : (.methodLink RX7 93 yX0_setByCard : Cond) ∈ bw := bw_of (i := 337) (by decide +kernel) rfl
theorem bw_338 : (.static yX0_setByCard : Cond) ∈ bw := bw_of (i := 338) (by decide +kernel) rfl
theorem bw_339 : (.code yX0_setByCard cX0_setByCard 4 (some .int) : Cond) ∈ bw := bw_of (i := 339) (by decide +kernel) rfl
theorem bw_340 : (.methodLink RX0 113 yX3_lampLoss : Cond) ∈ bw := bw_of (i := 340) (by decide +kernel) rfl
theorem bw_341 : (.methodLink RX0 116 Lib.Math.min.name : Cond) ∈ bw := bw_of (i := 341) (by decide +kernel) rfl
theorem bw_342 : (.methodLink RL 79 yX7_trim : Cond) ∈ bw := bw_of (i := 342) (by decide +kernel) rfl
theorem bw_343 : (.instanceMethod yX7_trim : Cond) ∈ bw := bw_of (i := 343) (by decide +kernel) rfl
theorem bw_344 : (.selects RX7 yX7_trim yX7_trim : Cond) ∈ bw := bw_of (i := 344) (by decide +kernel) rfl
theorem bw_345 : (.code yX7_trim cX7_trim 3 (some .int) : Cond) ∈ bw := bw_of (i := 345) (by decide +kernel) rfl
theorem bw_346 : (.methodLink RX7 96 yX0_changeTrim : Cond) ∈ bw := bw_of (i := 346) (by decide +kernel) rfl
theorem bw_347 : (.static yX0_changeTrim : Cond) ∈ bw := bw_of (i := 347) (by decide +kernel) rfl
theorem bw_348 : (.code yX0_changeTrim cX0_changeTrim 3 (some .int) : Cond) ∈ bw := bw_of (i := 348) (by decide +kernel) rfl
theorem bw_349 : (.methodLink RX0 22 yX0_exchange : Cond) ∈ bw := bw_of (i := 349) (by decide +kernel) rfl
theorem bw_350 : (.static yX0_exchange : Cond) ∈ bw := bw_of (i := 350) (by decide +kernel) rfl
theorem bw_351 : (.code yX0_exchange cX0_exchange 4 (some .int) : Cond) ∈ bw := bw_of (i := 351) (by decide +kernel) rfl
theorem bw_352 : (.methodLink RL 82 yX7_lamp : Cond) ∈ bw := bw_of (i := 352) (by decide +kernel) rfl
theorem bw_353 : (.instanceMethod yX7_lamp : Cond) ∈ bw := bw_of (i := 353) (by decide +kernel) rfl
theorem bw_354 : (.selects RX7 yX7_lamp yX7_lamp : Cond) ∈ bw := bw_of (i := 354) (by decide +kernel) rfl
theorem bw_355 : (.code yX7_lamp cX7_lamp 2 (some .int) : Cond) ∈ bw := bw_of (i := 355) (by decide +kernel) rfl
theorem bw_356 : (.methodLink RX7 99 yX0_changeLamp : Cond) ∈ bw := bw_of (i := 356) (by decide +kernel) rfl
theorem bw_357 : (.static yX0_changeLamp : Cond) ∈ bw := bw_of (i := 357) (by decide +kernel) rfl
theorem bw_358 : (.code yX0_changeLamp cX0_changeLamp 2 (some .int) : Cond) ∈ bw := bw_of (i := 358) (by decide +kernel) rfl
theorem bw_359 : (.methodLink RL 85 yX7_takeOut : Cond) ∈ bw := bw_of (i := 359) (by decide +kernel) rfl
theorem bw_360 : (.instanceMethod yX7_takeOut : Cond) ∈ bw := bw_of (i := 360) (by decide +kernel) rfl
theorem bw_361 : (.selects RX7 yX7_takeOut yX7_takeOut : Cond) ∈ bw := bw_of (i := 361) (by decide +kernel) rfl
theorem bw_362 : (.code yX7_takeOut cX7_takeOut 2 (some .int) : Cond) ∈ bw := bw_of (i := 362) (by decide +kernel) rfl
theorem bw_363 : (.methodLink RX7 63 yX0_dropShot : Cond) ∈ bw := bw_of (i := 363) (by decide +kernel) rfl
theorem bw_364 : (.static yX0_dropShot : Cond) ∈ bw := bw_of (i := 364) (by decide +kernel) rfl
theorem bw_365 : (.code yX0_dropShot cX0_dropShot 2 (some .int) : Cond) ∈ bw := bw_of (i := 365) (by decide +kernel) rfl
theorem bw_366 : (.methodLink RL 88 yX7_set : Cond) ∈ bw := bw_of (i := 366) (by decide +kernel) rfl
theorem bw_367 : (.instanceMethod yX7_set : Cond) ∈ bw := bw_of (i := 367) (by decide +kernel) rfl
theorem bw_368 : (.selects RX7 yX7_set yX7_set : Cond) ∈ bw := bw_of (i := 368) (by decide +kernel) rfl
theorem bw_369 : (.code yX7_set cX7_set 3 (some .int) : Cond) ∈ bw := bw_of (i := 369) (by decide +kernel) rfl
theorem bw_370 : (.methodLink RX7 49 yX0_changeSetting : Cond) ∈ bw := bw_of (i := 370) (by decide +kernel) rfl
theorem bw_371 : (.static yX0_changeSetting : Cond) ∈ bw := bw_of (i := 371) (by decide +kernel) rfl
theorem bw_372 : (.code yX0_changeSetting cX0_changeSetting 3 (some .int) : Cond) ∈ bw := bw_of (i := 372) (by decide +kernel) rfl
theorem bw_377 : (.methodLink RL 159 yL_due : Cond) ∈ bw := bw_of (i := 377) (by decide +kernel) rfl
theorem bw_378 : (.static yL_due : Cond) ∈ bw := bw_of (i := 378) (by decide +kernel) rfl
theorem bw_379 : (.code yL_due cL_due 13 (some .int) : Cond) ∈ bw := bw_of (i := 379) (by decide +kernel) rfl
theorem bw_380 : (.methodLink RL 91 yL_shift : Cond) ∈ bw := bw_of (i := 380) (by decide +kernel) rfl
theorem bw_381 : (.static yL_shift : Cond) ∈ bw := bw_of (i := 381) (by decide +kernel) rfl
theorem bw_382 : (.code yL_shift cL_shift 9 (Option.none : Option Jvm.ClassFile.FieldType) : Cond) ∈ bw := bw_of (i := 382) (by decide +kernel) rfl
theorem bw_383 : (.methodLink RL 20 yL_copy : Cond) ∈ bw := bw_of (i := 383) (by decide +kernel) rfl
theorem bw_384 : (.static yL_copy : Cond) ∈ bw := bw_of (i := 384) (by decide +kernel) rfl
theorem bw_385 : (.code yL_copy cL_copy 8 (Option.none : Option Jvm.ClassFile.FieldType) : Cond) ∈ bw := bw_of (i := 385) (by decide +kernel) rfl
theorem bw_386 : (.methodLink RL 24 yL_forget : Cond) ∈ bw := bw_of (i := 386) (by decide +kernel) rfl
theorem bw_387 : (.static yL_forget : Cond) ∈ bw := bw_of (i := 387) (by decide +kernel) rfl
theorem bw_388 : (.code yL_forget cL_forget 3 (Option.none : Option Jvm.ClassFile.FieldType) : Cond) ∈ bw := bw_of (i := 388) (by decide +kernel) rfl
theorem bw_389 : (.methodLink RL 99 yL_ofShot : Cond) ∈ bw := bw_of (i := 389) (by decide +kernel) rfl
theorem bw_390 : (.static yL_ofShot : Cond) ∈ bw := bw_of (i := 390) (by decide +kernel) rfl
theorem bw_391 : (.code yL_ofShot cL_ofShot 13 (some .int) : Cond) ∈ bw := bw_of (i := 391) (by decide +kernel) rfl
theorem bw_392 : (.methodLink RL 16 yL_size : Cond) ∈ bw := bw_of (i := 392) (by decide +kernel) rfl
theorem bw_393 : (.static yL_size : Cond) ∈ bw := bw_of (i := 393) (by decide +kernel) rfl
theorem bw_394 : (.code yL_size cL_size 1 (some .int) : Cond) ∈ bw := bw_of (i := 394) (by decide +kernel) rfl
theorem bw_395 : (.methodLink RL 95 yL_corrects : Cond) ∈ bw := bw_of (i := 395) (by decide +kernel) rfl
theorem bw_396 : (.static yL_corrects : Cond) ∈ bw := bw_of (i := 396) (by decide +kernel) rfl
theorem bw_397 : (.code yL_corrects cL_corrects 9 (some .int) : Cond) ∈ bw := bw_of (i := 397) (by decide +kernel) rfl
theorem bw_398 : (.methodLink RL 103 yL_print : Cond) ∈ bw := bw_of (i := 398) (by decide +kernel) rfl
theorem bw_399 : (.static yL_print : Cond) ∈ bw := bw_of (i := 399) (by decide +kernel) rfl
theorem bw_400 : (.code yL_print cL_print 10 (some .int) : Cond) ∈ bw := bw_of (i := 400) (by decide +kernel) rfl
theorem bw_401 : (.methodLink RL 28 yL_feet : Cond) ∈ bw := bw_of (i := 401) (by decide +kernel) rfl
theorem bw_402 : (.static yL_feet : Cond) ∈ bw := bw_of (i := 402) (by decide +kernel) rfl
theorem bw_403 : (.code yL_feet cL_feet 4 (some .int) : Cond) ∈ bw := bw_of (i := 403) (by decide +kernel) rfl
theorem bw_404 : (.methodLink RL 32 yL_off : Cond) ∈ bw := bw_of (i := 404) (by decide +kernel) rfl
theorem bw_405 : (.static yL_off : Cond) ∈ bw := bw_of (i := 405) (by decide +kernel) rfl
theorem bw_406 : (.code yL_off cL_off 6 (some .int) : Cond) ∈ bw := bw_of (i := 406) (by decide +kernel) rfl
theorem bw_407 : (.methodLink RL 10 yL_prints : Cond) ∈ bw := bw_of (i := 407) (by decide +kernel) rfl
theorem bw_408 : (.static yL_prints : Cond) ∈ bw := bw_of (i := 408) (by decide +kernel) rfl
theorem bw_409 : (.code yL_prints cL_prints 6 (some .int) : Cond) ∈ bw := bw_of (i := 409) (by decide +kernel) rfl
theorem bw_410 : (.methodLink RL 36 yL_isBad : Cond) ∈ bw := bw_of (i := 410) (by decide +kernel) rfl
theorem bw_411 : (.static yL_isBad : Cond) ∈ bw := bw_of (i := 411) (by decide +kernel) rfl
theorem bw_412 : (.code yL_isBad cL_isBad 5 (some .boolean) : Cond) ∈ bw := bw_of (i := 412) (by decide +kernel) rfl
theorem bw_413 : (.methodLink RL 162 yL_isSo : Cond) ∈ bw := bw_of (i := 413) (by decide +kernel) rfl
theorem bw_414 : (.static yL_isSo : Cond) ∈ bw := bw_of (i := 414) (by decide +kernel) rfl
theorem bw_415 : (.code yL_isSo cL_isSo 15 (some .boolean) : Cond) ∈ bw := bw_of (i := 415) (by decide +kernel) rfl
theorem bw_416 : (.methodLink RL 109 yL_jumps : Cond) ∈ bw := bw_of (i := 416) (by decide +kernel) rfl
theorem bw_417 : (.static yL_jumps : Cond) ∈ bw := bw_of (i := 417) (by decide +kernel) rfl
theorem bw_418 : (.code yL_jumps cL_jumps 6 (some .boolean) : Cond) ∈ bw := bw_of (i := 418) (by decide +kernel) rfl
theorem bw_419 : (.methodLink RL 125 yX7_count : Cond) ∈ bw := bw_of (i := 419) (by decide +kernel) rfl
theorem bw_420 : (.instanceMethod yX7_count : Cond) ∈ bw := bw_of (i := 420) (by decide +kernel) rfl
theorem bw_421 : (.selects RX7 yX7_count yX7_count : Cond) ∈ bw := bw_of (i := 421) (by decide +kernel) rfl
theorem bw_422 : (.code yX7_count cX7_count 2 (some .int) : Cond) ∈ bw := bw_of (i := 422) (by decide +kernel) rfl
theorem bw_423 : (.methodLink RX7 140 yX3_shots : Cond) ∈ bw := bw_of (i := 423) (by decide +kernel) rfl
theorem bw_424 : (.methodLink RX7 110 yX5_feetBefore : Cond) ∈ bw := bw_of (i := 424) (by decide +kernel) rfl
theorem bw_425 : (.methodLink RX7 134 yX3_read : Cond) ∈ bw := bw_of (i := 425) (by decide +kernel) rfl
theorem bw_426 : (.methodLink RX7 144 yX5_setOf : Cond) ∈ bw := bw_of (i := 426) (by decide +kernel) rfl
theorem bw_427 : (.static yX5_setOf : Cond) ∈ bw := bw_of (i := 427) (by decide +kernel) rfl
theorem bw_428 : (.code yX5_setOf cX5_setOf 4 (some .int) : Cond) ∈ bw := bw_of (i := 428) (by decide +kernel) rfl
theorem bw_429 : (.methodLink RX5 64 yX3_shots : Cond) ∈ bw := bw_of (i := 429) (by decide +kernel) rfl
theorem bw_430 : (.methodLink RX5 68 yX5_holds : Cond) ∈ bw := bw_of (i := 430) (by decide +kernel) rfl
theorem bw_431 : (.static yX5_holds : Cond) ∈ bw := bw_of (i := 431) (by decide +kernel) rfl
theorem bw_432 : (.code yX5_holds cX5_holds 3 (some .boolean) : Cond) ∈ bw := bw_of (i := 432) (by decide +kernel) rfl
theorem bw_433 : (.methodLink RX5 55 yX5_isBad : Cond) ∈ bw := bw_of (i := 433) (by decide +kernel) rfl
theorem bw_434 : (.methodLink RX5 58 yX5_jumps : Cond) ∈ bw := bw_of (i := 434) (by decide +kernel) rfl
theorem bw_435 : (.static yX5_jumps : Cond) ∈ bw := bw_of (i := 435) (by decide +kernel) rfl
theorem bw_436 : (.code yX5_jumps cX5_jumps 5 (some .boolean) : Cond) ∈ bw := bw_of (i := 436) (by decide +kernel) rfl
theorem bw_437 : (.methodLink RX5 47 yX3_hasShot : Cond) ∈ bw := bw_of (i := 437) (by decide +kernel) rfl
theorem bw_438 : (.methodLink RX5 51 yX5_printsNow : Cond) ∈ bw := bw_of (i := 438) (by decide +kernel) rfl
theorem bw_439 : (.static yX5_printsNow : Cond) ∈ bw := bw_of (i := 439) (by decide +kernel) rfl
theorem bw_440 : (.code yX5_printsNow cX5_printsNow 4 (some .int) : Cond) ∈ bw := bw_of (i := 440) (by decide +kernel) rfl
theorem bw_441 : (.methodLink RX5 61 yX5_isOff : Cond) ∈ bw := bw_of (i := 441) (by decide +kernel) rfl
theorem bw_442 : (.static yX5_isOff : Cond) ∈ bw := bw_of (i := 442) (by decide +kernel) rfl
theorem bw_443 : (.code yX5_isOff cX5_isOff 5 (some .boolean) : Cond) ∈ bw := bw_of (i := 443) (by decide +kernel) rfl
theorem bw_444 : (.methodLink RX5 31 yX5_offWith : Cond) ∈ bw := bw_of (i := 444) (by decide +kernel) rfl
theorem bw_445 : (.methodLink RX7 147 yX2_length : Cond) ∈ bw := bw_of (i := 445) (by decide +kernel) rfl
theorem bw_446 : (.instanceMethod yX2_length : Cond) ∈ bw := bw_of (i := 446) (by decide +kernel) rfl
theorem bw_447 : (.selects RX2 yX2_length yX2_length : Cond) ∈ bw := bw_of (i := 447) (by decide +kernel) rfl
theorem bw_448 : (.code yX2_length cX2_length 1 (some .int) : Cond) ∈ bw := bw_of (i := 448) (by decide +kernel) rfl
theorem bw_449 : (.methodLink RL 128 yX7_ofLamp : Cond) ∈ bw := bw_of (i := 449) (by decide +kernel) rfl
theorem bw_450 : (.instanceMethod yX7_ofLamp : Cond) ∈ bw := bw_of (i := 450) (by decide +kernel) rfl
theorem bw_451 : (.selects RX7 yX7_ofLamp yX7_ofLamp : Cond) ∈ bw := bw_of (i := 451) (by decide +kernel) rfl
theorem bw_452 : (.code yX7_ofLamp cX7_ofLamp 3 (some .int) : Cond) ∈ bw := bw_of (i := 452) (by decide +kernel) rfl
theorem bw_453 : (.methodLink RX7 125 yX7_isColour : Cond) ∈ bw := bw_of (i := 453) (by decide +kernel) rfl
theorem bw_454 : (.methodLink RX7 137 yX3_lampLoss : Cond) ∈ bw := bw_of (i := 454) (by decide +kernel) rfl
theorem bw_455 : (.methodLink RL 106 yX7_of : Cond) ∈ bw := bw_of (i := 455) (by decide +kernel) rfl
theorem bw_456 : (.instanceMethod yX7_of : Cond) ∈ bw := bw_of (i := 456) (by decide +kernel) rfl
theorem bw_457 : (.selects RX7 yX7_of yX7_of : Cond) ∈ bw := bw_of (i := 457) (by decide +kernel) rfl
theorem bw_458 : (.code yX7_of cX7_of 3 (some .int) : Cond) ∈ bw := bw_of (i := 458) (by decide +kernel) rfl
theorem bw_459 : (.methodLink RX7 102 yX3_hasShot : Cond) ∈ bw := bw_of (i := 459) (by decide +kernel) rfl
theorem bw_460 : (.methodLink RX7 106 yX3_readShot : Cond) ∈ bw := bw_of (i := 460) (by decide +kernel) rfl
theorem bw_461 : (.methodLink RX7 115 yX5_isAnswered : Cond) ∈ bw := bw_of (i := 461) (by decide +kernel) rfl
theorem bw_462 : (.methodLink RX7 119 yX5_isBad : Cond) ∈ bw := bw_of (i := 462) (by decide +kernel) rfl
theorem bw_463 : (.methodLink RX7 122 yX5_jumps : Cond) ∈ bw := bw_of (i := 463) (by decide +kernel) rfl
theorem bw_464 : (.methodLink RL 131 yL_isBest : Cond) ∈ bw := bw_of (i := 464) (by decide +kernel) rfl
theorem bw_465 : (.static yL_isBest : Cond) ∈ bw := bw_of (i := 465) (by decide +kernel) rfl
theorem bw_466 : (.code yL_isBest cL_isBest 12 (some .boolean) : Cond) ∈ bw := bw_of (i := 466) (by decide +kernel) rfl
theorem bw_467 : (.methodLink RL 122 yX7_bestTrim : Cond) ∈ bw := bw_of (i := 467) (by decide +kernel) rfl
theorem bw_468 : (.instanceMethod yX7_bestTrim : Cond) ∈ bw := bw_of (i := 468) (by decide +kernel) rfl
theorem bw_469 : (.selects RX7 yX7_bestTrim yX7_bestTrim : Cond) ∈ bw := bw_of (i := 469) (by decide +kernel) rfl
theorem bw_470 : (.code yX7_bestTrim cX7_bestTrim 4 (some .int) : Cond) ∈ bw := bw_of (i := 470) (by decide +kernel) rfl
theorem bw_471 : (.methodLink RX7 172 yX6_leastOffTrim : Cond) ∈ bw := bw_of (i := 471) (by decide +kernel) rfl
theorem bw_472 : (.static yX6_leastOffTrim : Cond) ∈ bw := bw_of (i := 472) (by decide +kernel) rfl
theorem bw_473 : (.code yX6_leastOffTrim cX6_leastOffTrim 7 (some .int) : Cond) ∈ bw := bw_of (i := 473) (by decide +kernel) rfl
theorem bw_474 : (.methodLink RX6 37 yX6_offTogether : Cond) ∈ bw := bw_of (i := 474) (by decide +kernel) rfl
theorem bw_475 : (.static yX6_offTogether : Cond) ∈ bw := bw_of (i := 475) (by decide +kernel) rfl
theorem bw_476 : (.code yX6_offTogether cX6_offTogether 5 (some .int) : Cond) ∈ bw := bw_of (i := 476) (by decide +kernel) rfl
theorem bw_477 : (.methodLink RX6 25 yX3_shots : Cond) ∈ bw := bw_of (i := 477) (by decide +kernel) rfl
theorem bw_478 : (.methodLink RX6 41 yX5_offWith : Cond) ∈ bw := bw_of (i := 478) (by decide +kernel) rfl
theorem bw_479 : (.methodLink RX6 46 Lib.Math.abs.name : Cond) ∈ bw := bw_of (i := 479) (by decide +kernel) rfl
theorem bw_480 : (.methodLink RX7 175 yX6_offTogether : Cond) ∈ bw := bw_of (i := 480) (by decide +kernel) rfl
theorem bw_481 : (.methodLink RL 135 yL_isShot : Cond) ∈ bw := bw_of (i := 481) (by decide +kernel) rfl
theorem bw_482 : (.static yL_isShot : Cond) ∈ bw := bw_of (i := 482) (by decide +kernel) rfl
theorem bw_483 : (.code yL_isShot cL_isShot 13 (some .boolean) : Cond) ∈ bw := bw_of (i := 483) (by decide +kernel) rfl
theorem bw_484 : (.methodLink RL 113 yX7_inColour : Cond) ∈ bw := bw_of (i := 484) (by decide +kernel) rfl
theorem bw_485 : (.instanceMethod yX7_inColour : Cond) ∈ bw := bw_of (i := 485) (by decide +kernel) rfl
theorem bw_486 : (.selects RX7 yX7_inColour yX7_inColour : Cond) ∈ bw := bw_of (i := 486) (by decide +kernel) rfl
theorem bw_487 : (.code yX7_inColour cX7_inColour 4 (some .int) : Cond) ∈ bw := bw_of (i := 487) (by decide +kernel) rfl
theorem bw_488 : (.methodLink RX7 128 yX5_printsNow : Cond) ∈ bw := bw_of (i := 488) (by decide +kernel) rfl
theorem bw_489 : (.methodLink RX7 131 yX5_offNow : Cond) ∈ bw := bw_of (i := 489) (by decide +kernel) rfl
theorem bw_490 : (.static yX5_offNow : Cond) ∈ bw := bw_of (i := 490) (by decide +kernel) rfl
theorem bw_491 : (.code yX5_offNow cX5_offNow 3 (some .int) : Cond) ∈ bw := bw_of (i := 491) (by decide +kernel) rfl
theorem bw_492 : (.methodLink RL 116 yX7_needs : Cond) ∈ bw := bw_of (i := 492) (by decide +kernel) rfl
theorem bw_493 : (.instanceMethod yX7_needs : Cond) ∈ bw := bw_of (i := 493) (by decide +kernel) rfl
theorem bw_494 : (.selects RX7 yX7_needs yX7_needs : Cond) ∈ bw := bw_of (i := 494) (by decide +kernel) rfl
theorem bw_495 : (.code yX7_needs cX7_needs 4 (some .int) : Cond) ∈ bw := bw_of (i := 495) (by decide +kernel) rfl
theorem bw_496 : (.methodLink RX7 153 yX6_lightNeeded : Cond) ∈ bw := bw_of (i := 496) (by decide +kernel) rfl
theorem bw_497 : (.static yX6_lightNeeded : Cond) ∈ bw := bw_of (i := 497) (by decide +kernel) rfl
theorem bw_498 : (.code yX6_lightNeeded cX6_lightNeeded 6 (some .int) : Cond) ∈ bw := bw_of (i := 498) (by decide +kernel) rfl
theorem bw_499 : (.methodLink RX6 11 yX3_readShot : Cond) ∈ bw := bw_of (i := 499) (by decide +kernel) rfl
theorem bw_500 : (.methodLink RX6 15 yX3_read : Cond) ∈ bw := bw_of (i := 500) (by decide +kernel) rfl
theorem bw_501 : (.methodLink RX7 158 yX7_isPoints : Cond) ∈ bw := bw_of (i := 501) (by decide +kernel) rfl
theorem bw_502 : (.methodLink RL 119 yX7_ifLight : Cond) ∈ bw := bw_of (i := 502) (by decide +kernel) rfl
theorem bw_503 : (.instanceMethod yX7_ifLight : Cond) ∈ bw := bw_of (i := 503) (by decide +kernel) rfl
theorem bw_504 : (.selects RX7 yX7_ifLight yX7_ifLight : Cond) ∈ bw := bw_of (i := 504) (by decide +kernel) rfl
theorem bw_505 : (.code yX7_ifLight cX7_ifLight 4 (some .int) : Cond) ∈ bw := bw_of (i := 505) (by decide +kernel) rfl
theorem bw_506 : (.methodLink RX7 161 yX5_printsWith : Cond) ∈ bw := bw_of (i := 506) (by decide +kernel) rfl
theorem bw_507 : (.methodLink RL 148 yL_told : Cond) ∈ bw := bw_of (i := 507) (by decide +kernel) rfl
theorem bw_508 : (.static yL_told : Cond) ∈ bw := bw_of (i := 508) (by decide +kernel) rfl
theorem bw_509 : (.code yL_told cL_told 5 (some .long) : Cond) ∈ bw := bw_of (i := 509) (by decide +kernel) rfl
theorem bw_510 : (.constantLong "TimingLightsLaw" 139 181 : Cond) ∈ bw := bw_of (i := 510) (by decide +kernel) rfl
theorem bw_511 : (.constantLong "TimingLightsLaw" 141 31 : Cond) ∈ bw := bw_of (i := 511) (by decide +kernel) rfl
theorem inb_X1 : ∀ w ∈ wsX10, w ∈ bw := by decide +kernel
theorem inb_X2 : ∀ w ∈ wsX20, w ∈ bw := by decide +kernel
theorem inb_X3 : ∀ w ∈ wsX30, w ∈ bw := by decide +kernel
theorem inb_X4 : ∀ w ∈ wsX40, w ∈ bw := by decide +kernel
theorem inb_X7 : ∀ w ∈ wsX70, w ∈ bw := by decide +kernel
