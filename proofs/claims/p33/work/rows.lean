section
-- ===== PART A: goes FIRST, ahead of the names: the tables' words, and 'selects' of the private methods out of them =====
/-- a private method of a class that the tables say can be made, by its rows of tables_1 -/
def lw_okq (q : MethodName × Nat) : Prop := (q.1.cls ≠ "java/lang/invoke/MethodHandle" ∧ q.1.cls ≠ "java/lang/invoke/VarHandle") ∧ Cond.instantiable q.1.cls q.2 ∈ tables_1 ∧ Cond.privateMethod q.1 ∈ tables_1 ∧ Cond.instanceMethod q.1 ∈ tables_1
theorem lw_p0 : lw_okq (⟨"TimingLights", "recorded", "(I)I"⟩, 7) := ⟨⟨by decide +kernel, by decide +kernel⟩, List.mem_of_getElem? (i := 12) (by decide +kernel), List.mem_of_getElem? (i := 198) (by decide +kernel), List.mem_of_getElem? (i := 199) (by decide +kernel)⟩
def lw_privs_1 : List (MethodName × Nat) := [(⟨"TimingLights", "recorded", "(I)I"⟩, 7)]
theorem lw_r1 : ∀ q ∈ lw_privs_1, lw_okq q := List.forall_mem_cons.mpr ⟨lw_p0, fun _ h => absurd h List.not_mem_nil⟩
def lw_privs : List (MethodName × Nat) := lw_privs_1
def lw_tbl : List Cond := k2_sels lw_privs ++ tables_1
theorem lw_privs_ok : ∀ q ∈ lw_privs, lw_okq q := lw_r1
def RX0 : String := "TimingLights$Changes"
def TX0 : u_T := fun k => match k with
  | _ => ("", "", "", false)
def tyX0 : Nat → FieldType := fun k => match k with
  | _ => .int
abbrev wsX00 : List Cond := u_ws RX0 TX0 0
theorem nmX0 : ∀ a, a < 0 → ∀ b, b < 0 → a ≠ b → (TX0 a).2.1 ≠ (TX0 b).2.1 := by decide +kernel
theorem tyX0_ok : ∀ k, k < 0 → parseFieldDescriptor (TX0 k).2.2.1 = some (tyX0 k) := by decide +kernel
abbrev cX0_changeSetting : ByteArray := prog_2_method_2_code
def yX0_changeSetting : MethodName := ⟨RX0, "changeSetting", "(LTimingLights$Reel;II)I"⟩
abbrev cX0_addShot : ByteArray := prog_2_method_3_code
def yX0_addShot : MethodName := ⟨RX0, "addShot", "(LTimingLights$Reel;IIIII)I"⟩
abbrev cX0_dropShot : ByteArray := prog_2_method_4_code
def yX0_dropShot : MethodName := ⟨RX0, "dropShot", "(LTimingLights$Reel;I)I"⟩
abbrev cX0_changeLight : ByteArray := prog_2_method_5_code
def yX0_changeLight : MethodName := ⟨RX0, "changeLight", "(LTimingLights$Reel;III)I"⟩
abbrev cX0_changeWish : ByteArray := prog_2_method_6_code
def yX0_changeWish : MethodName := ⟨RX0, "changeWish", "(LTimingLights$Reel;III)I"⟩
abbrev cX0_moveShot : ByteArray := prog_2_method_7_code
def yX0_moveShot : MethodName := ⟨RX0, "moveShot", "(LTimingLights$Reel;II)I"⟩
abbrev cX0_splitShot : ByteArray := prog_2_method_8_code
def yX0_splitShot : MethodName := ⟨RX0, "splitShot", "(LTimingLights$Reel;II)I"⟩
abbrev cX0_joinShots : ByteArray := prog_2_method_9_code
def yX0_joinShots : MethodName := ⟨RX0, "joinShots", "(LTimingLights$Reel;I)I"⟩
abbrev cX0_isSameStock : ByteArray := prog_2_method_10_code
def yX0_isSameStock : MethodName := ⟨RX0, "isSameStock", "(LTimingLights$Reel;II)Z"⟩
abbrev cX0_makePrint : ByteArray := prog_2_method_11_code
def yX0_makePrint : MethodName := ⟨RX0, "makePrint", "(LTimingLights$Reel;)I"⟩
abbrev cX0_runPrinter : ByteArray := prog_2_method_12_code
def yX0_runPrinter : MethodName := ⟨RX0, "runPrinter", "(LTimingLights$Reel;)I"⟩
abbrev cX0_hoursOfPrint : ByteArray := prog_2_method_13_code
def yX0_hoursOfPrint : MethodName := ⟨RX0, "hoursOfPrint", "(LTimingLights$Reel;)I"⟩
abbrev cX0_correctShot : ByteArray := prog_2_method_14_code
def yX0_correctShot : MethodName := ⟨RX0, "correctShot", "(LTimingLights$Reel;I)I"⟩
abbrev cX0_correctLight : ByteArray := prog_2_method_15_code
def yX0_correctLight : MethodName := ⟨RX0, "correctLight", "(LTimingLights$Reel;II)I"⟩
abbrev cX0_correctBadShots : ByteArray := prog_2_method_16_code
def yX0_correctBadShots : MethodName := ⟨RX0, "correctBadShots", "(LTimingLights$Reel;)I"⟩
abbrev cX0_setByCard : ByteArray := prog_2_method_17_code
def yX0_setByCard : MethodName := ⟨RX0, "setByCard", "(LTimingLights$Reel;)I"⟩
abbrev cX0_changeTrim : ByteArray := prog_2_method_18_code
def yX0_changeTrim : MethodName := ⟨RX0, "changeTrim", "(LTimingLights$Reel;II)I"⟩
abbrev cX0_changeLamp : ByteArray := prog_2_method_19_code
def yX0_changeLamp : MethodName := ⟨RX0, "changeLamp", "(LTimingLights$Reel;I)I"⟩
abbrev cX0_exchange : ByteArray := prog_2_method_20_code
def yX0_exchange : MethodName := ⟨RX0, "exchange", "(LTimingLights$Reel;II)I"⟩
def RX1 : String := "TimingLights$History"
def TX1 : u_T := fun k => match k with
  | 0 => ("TimingLights$History", "shelf", "LTimingLights$Shelf;", true)
  | 1 => ("TimingLights$History", "oldest", "I", false)
  | _ => ("TimingLights$History", "size", "I", false)
def tyX1 : Nat → FieldType := fun k => match k with
  | 0 => .object "TimingLights$Shelf"
  | 1 => .int
  | _ => .int
abbrev wsX10 : List Cond := u_ws RX1 TX1 3
theorem nmX1 : ∀ a, a < 3 → ∀ b, b < 3 → a ≠ b → (TX1 a).2.1 ≠ (TX1 b).2.1 := by decide +kernel
theorem tyX1_ok : ∀ k, k < 3 → parseFieldDescriptor (TX1 k).2.2.1 = some (tyX1 k) := by decide +kernel
abbrev cX1_init : ByteArray := prog_3_method_1_code
def yX1_init : MethodName := ⟨RX1, "<init>", "()V"⟩
abbrev cX1_size : ByteArray := prog_3_method_2_code
def yX1_size : MethodName := ⟨RX1, "size", "()I"⟩
abbrev cX1_record : ByteArray := prog_3_method_3_code
def yX1_record : MethodName := ⟨RX1, "record", "(LTimingLights$Reel;)V"⟩
abbrev cX1_takeBack : ByteArray := prog_3_method_4_code
def yX1_takeBack : MethodName := ⟨RX1, "takeBack", "(LTimingLights$Reel;)V"⟩
def RX2 : String := "TimingLights$Pad"
def TX2 : u_T := fun k => match k with
  | 0 => ("TimingLights$Pad", "characters", "[C", true)
  | 1 => ("TimingLights$Pad", "numbers", "[I", true)
  | 2 => ("TimingLights$Pad", "length", "I", false)
  | 3 => ("TimingLights$Pad", "at", "I", false)
  | 4 => ("TimingLights$Pad", "numbersRead", "I", false)
  | 5 => ("TimingLights$Pad", "letter", "I", false)
  | 6 => ("TimingLights$Pad", "colour", "I", false)
  | _ => ("TimingLights$Pad", "minus", "Z", false)
def tyX2 : Nat → FieldType := fun k => match k with
  | 0 => .array .char
  | 1 => .array .int
  | 2 => .int
  | 3 => .int
  | 4 => .int
  | 5 => .int
  | 6 => .int
  | _ => .boolean
abbrev wsX20 : List Cond := u_ws RX2 TX2 8
theorem nmX2 : ∀ a, a < 8 → ∀ b, b < 8 → a ≠ b → (TX2 a).2.1 ≠ (TX2 b).2.1 := by decide +kernel
theorem tyX2_ok : ∀ k, k < 8 → parseFieldDescriptor (TX2 k).2.2.1 = some (tyX2 k) := by decide +kernel
abbrev cX2_init : ByteArray := prog_4_method_1_code
def yX2_init : MethodName := ⟨RX2, "<init>", "()V"⟩
abbrev cX2_length : ByteArray := prog_4_method_2_code
def yX2_length : MethodName := ⟨RX2, "length", "()I"⟩
def RX3 : String := "TimingLights$Reel"
def TX3 : u_T := fun k => match k with
  | _ => ("TimingLights$Reel", "cells", "[I", true)
def tyX3 : Nat → FieldType := fun k => match k with
  | _ => .array .int
abbrev wsX30 : List Cond := u_ws RX3 TX3 1
theorem nmX3 : ∀ a, a < 1 → ∀ b, b < 1 → a ≠ b → (TX3 a).2.1 ≠ (TX3 b).2.1 := by decide +kernel
theorem tyX3_ok : ∀ k, k < 1 → parseFieldDescriptor (TX3 k).2.2.1 = some (tyX3 k) := by decide +kernel
abbrev cX3_init : ByteArray := prog_5_method_1_code
def yX3_init : MethodName := ⟨RX3, "<init>", "()V"⟩
abbrev cX3_read : ByteArray := prog_5_method_2_code
def yX3_read : MethodName := ⟨RX3, "read", "(I)I"⟩
abbrev cX3_write : ByteArray := prog_5_method_3_code
def yX3_write : MethodName := ⟨RX3, "write", "(II)V"⟩
abbrev cX3_readShot : ByteArray := prog_5_method_4_code
def yX3_readShot : MethodName := ⟨RX3, "readShot", "(II)I"⟩
abbrev cX3_writeShot : ByteArray := prog_5_method_5_code
def yX3_writeShot : MethodName := ⟨RX3, "writeShot", "(III)V"⟩
abbrev cX3_lampLoss : ByteArray := prog_5_method_6_code
def yX3_lampLoss : MethodName := ⟨RX3, "lampLoss", "(I)I"⟩
abbrev cX3_shots : ByteArray := prog_5_method_7_code
def yX3_shots : MethodName := ⟨RX3, "shots", "()I"⟩
abbrev cX3_hasShot : ByteArray := prog_5_method_8_code
def yX3_hasShot : MethodName := ⟨RX3, "hasShot", "(I)Z"⟩
abbrev cX3_openPlace : ByteArray := prog_5_method_9_code
def yX3_openPlace : MethodName := ⟨RX3, "openPlace", "(I)V"⟩
abbrev cX3_closePlace : ByteArray := prog_5_method_10_code
def yX3_closePlace : MethodName := ⟨RX3, "closePlace", "(I)V"⟩
abbrev cX3_copyShot : ByteArray := prog_5_method_11_code
def yX3_copyShot : MethodName := ⟨RX3, "copyShot", "(II)V"⟩
abbrev cX3_swapShots : ByteArray := prog_5_method_12_code
def yX3_swapShots : MethodName := ⟨RX3, "swapShots", "(II)V"⟩
abbrev cX3_become : ByteArray := prog_5_method_13_code
def yX3_become : MethodName := ⟨RX3, "become", "(LTimingLights$Reel;)V"⟩
abbrev cX3_writeTo : ByteArray := prog_5_method_14_code
def yX3_writeTo : MethodName := ⟨RX3, "writeTo", "([II)V"⟩
abbrev cX3_readFrom : ByteArray := prog_5_method_15_code
def yX3_readFrom : MethodName := ⟨RX3, "readFrom", "([II)V"⟩
def RX4 : String := "TimingLights$Shelf"
def TX4 : u_T := fun k => match k with
  | _ => ("TimingLights$Shelf", "rows", "[I", true)
def tyX4 : Nat → FieldType := fun k => match k with
  | _ => .array .int
abbrev wsX40 : List Cond := u_ws RX4 TX4 1
theorem nmX4 : ∀ a, a < 1 → ∀ b, b < 1 → a ≠ b → (TX4 a).2.1 ≠ (TX4 b).2.1 := by decide +kernel
theorem tyX4_ok : ∀ k, k < 1 → parseFieldDescriptor (TX4 k).2.2.1 = some (tyX4 k) := by decide +kernel
abbrev cX4_init : ByteArray := prog_6_method_1_code
def yX4_init : MethodName := ⟨RX4, "<init>", "(I)V"⟩
abbrev cX4_keep : ByteArray := prog_6_method_2_code
def yX4_keep : MethodName := ⟨RX4, "keep", "(ILTimingLights$Reel;)V"⟩
abbrev cX4_give : ByteArray := prog_6_method_3_code
def yX4_give : MethodName := ⟨RX4, "give", "(ILTimingLights$Reel;)V"⟩
def RX5 : String := "TimingLights$Views"
def TX5 : u_T := fun k => match k with
  | _ => ("", "", "", false)
def tyX5 : Nat → FieldType := fun k => match k with
  | _ => .int
abbrev wsX50 : List Cond := u_ws RX5 TX5 0
theorem nmX5 : ∀ a, a < 0 → ∀ b, b < 0 → a ≠ b → (TX5 a).2.1 ≠ (TX5 b).2.1 := by decide +kernel
theorem tyX5_ok : ∀ k, k < 0 → parseFieldDescriptor (TX5 k).2.2.1 = some (tyX5 k) := by decide +kernel
abbrev cX5_printsWith : ByteArray := prog_7_method_2_code
def yX5_printsWith : MethodName := ⟨RX5, "printsWith", "(LTimingLights$Reel;IIII)I"⟩
abbrev cX5_printsNow : ByteArray := prog_7_method_3_code
def yX5_printsNow : MethodName := ⟨RX5, "printsNow", "(LTimingLights$Reel;II)I"⟩
abbrev cX5_offWith : ByteArray := prog_7_method_4_code
def yX5_offWith : MethodName := ⟨RX5, "offWith", "(LTimingLights$Reel;III)I"⟩
abbrev cX5_offNow : ByteArray := prog_7_method_5_code
def yX5_offNow : MethodName := ⟨RX5, "offNow", "(LTimingLights$Reel;II)I"⟩
abbrev cX5_feetBefore : ByteArray := prog_7_method_6_code
def yX5_feetBefore : MethodName := ⟨RX5, "feetBefore", "(LTimingLights$Reel;I)I"⟩
abbrev cX5_isAnswered : ByteArray := prog_7_method_7_code
def yX5_isAnswered : MethodName := ⟨RX5, "isAnswered", "(LTimingLights$Reel;I)Z"⟩
abbrev cX5_isBad : ByteArray := prog_7_method_8_code
def yX5_isBad : MethodName := ⟨RX5, "isBad", "(LTimingLights$Reel;I)Z"⟩
abbrev cX5_isOff : ByteArray := prog_7_method_9_code
def yX5_isOff : MethodName := ⟨RX5, "isOff", "(LTimingLights$Reel;I)Z"⟩
abbrev cX5_jumps : ByteArray := prog_7_method_10_code
def yX5_jumps : MethodName := ⟨RX5, "jumps", "(LTimingLights$Reel;I)Z"⟩
abbrev cX5_holds : ByteArray := prog_7_method_11_code
def yX5_holds : MethodName := ⟨RX5, "holds", "(LTimingLights$Reel;II)Z"⟩
abbrev cX5_setOf : ByteArray := prog_7_method_12_code
def yX5_setOf : MethodName := ⟨RX5, "setOf", "(LTimingLights$Reel;I)I"⟩
def RX6 : String := "TimingLights$WhatIf"
def TX6 : u_T := fun k => match k with
  | _ => ("", "", "", false)
def tyX6 : Nat → FieldType := fun k => match k with
  | _ => .int
abbrev wsX60 : List Cond := u_ws RX6 TX6 0
theorem nmX6 : ∀ a, a < 0 → ∀ b, b < 0 → a ≠ b → (TX6 a).2.1 ≠ (TX6 b).2.1 := by decide +kernel
theorem tyX6_ok : ∀ k, k < 0 → parseFieldDescriptor (TX6 k).2.2.1 = some (tyX6 k) := by decide +kernel
abbrev cX6_lightNeeded : ByteArray := prog_8_method_2_code
def yX6_lightNeeded : MethodName := ⟨RX6, "lightNeeded", "(LTimingLights$Reel;III)I"⟩
abbrev cX6_leastOffTrim : ByteArray := prog_8_method_5_code
def yX6_leastOffTrim : MethodName := ⟨RX6, "leastOffTrim", "(LTimingLights$Reel;I)I"⟩
abbrev cX6_offTogether : ByteArray := prog_8_method_6_code
def yX6_offTogether : MethodName := ⟨RX6, "offTogether", "(LTimingLights$Reel;II)I"⟩
def RX7 : String := "TimingLights"
def TX7 : u_T := fun k => match k with
  | 0 => ("TimingLights", "reel", "LTimingLights$Reel;", true)
  | 1 => ("TimingLights", "before", "LTimingLights$Reel;", true)
  | 2 => ("TimingLights", "trial", "LTimingLights$Reel;", true)
  | 3 => ("TimingLights", "pad", "LTimingLights$Pad;", true)
  | 4 => ("TimingLights", "history", "LTimingLights$History;", true)
  | 5 => ("TimingLights", "slots", "LTimingLights$Shelf;", true)
  | _ => ("TimingLights", "slotsFilled", "I", false)
def tyX7 : Nat → FieldType := fun k => match k with
  | 0 => .object "TimingLights$Reel"
  | 1 => .object "TimingLights$Reel"
  | 2 => .object "TimingLights$Reel"
  | 3 => .object "TimingLights$Pad"
  | 4 => .object "TimingLights$History"
  | 5 => .object "TimingLights$Shelf"
  | _ => .int
abbrev wsX70 : List Cond := u_ws RX7 TX7 7
theorem nmX7 : ∀ a, a < 7 → ∀ b, b < 7 → a ≠ b → (TX7 a).2.1 ≠ (TX7 b).2.1 := by decide +kernel
theorem tyX7_ok : ∀ k, k < 7 → parseFieldDescriptor (TX7 k).2.2.1 = some (tyX7 k) := by decide +kernel
abbrev cX7_init : ByteArray := prog_1_method_1_code
def yX7_init : MethodName := ⟨RX7, "<init>", "()V"⟩
abbrev cX7_set : ByteArray := prog_1_method_2_code
def yX7_set : MethodName := ⟨RX7, "set", "(II)I"⟩
abbrev cX7_shot : ByteArray := prog_1_method_3_code
def yX7_shot : MethodName := ⟨RX7, "shot", "(IIIII)I"⟩
abbrev cX7_takeOut : ByteArray := prog_1_method_4_code
def yX7_takeOut : MethodName := ⟨RX7, "takeOut", "(I)I"⟩
abbrev cX7_light : ByteArray := prog_1_method_5_code
def yX7_light : MethodName := ⟨RX7, "light", "(III)I"⟩
abbrev cX7_wish : ByteArray := prog_1_method_6_code
def yX7_wish : MethodName := ⟨RX7, "wish", "(III)I"⟩
abbrev cX7_move : ByteArray := prog_1_method_7_code
def yX7_move : MethodName := ⟨RX7, "move", "(II)I"⟩
abbrev cX7_split : ByteArray := prog_1_method_8_code
def yX7_split : MethodName := ⟨RX7, "split", "(II)I"⟩
abbrev cX7_join : ByteArray := prog_1_method_9_code
def yX7_join : MethodName := ⟨RX7, "join", "(I)I"⟩
abbrev cX7_print : ByteArray := prog_1_method_10_code
def yX7_print : MethodName := ⟨RX7, "print", "()I"⟩
abbrev cX7_correct : ByteArray := prog_1_method_11_code
def yX7_correct : MethodName := ⟨RX7, "correct", "(I)I"⟩
abbrev cX7_correctAll : ByteArray := prog_1_method_12_code
def yX7_correctAll : MethodName := ⟨RX7, "correctAll", "()I"⟩
abbrev cX7_card : ByteArray := prog_1_method_13_code
def yX7_card : MethodName := ⟨RX7, "card", "()I"⟩
abbrev cX7_trim : ByteArray := prog_1_method_14_code
def yX7_trim : MethodName := ⟨RX7, "trim", "(II)I"⟩
abbrev cX7_lamp : ByteArray := prog_1_method_15_code
def yX7_lamp : MethodName := ⟨RX7, "lamp", "(I)I"⟩
abbrev cX7_of : ByteArray := prog_1_method_16_code
def yX7_of : MethodName := ⟨RX7, "of", "(II)I"⟩
abbrev cX7_inColour : ByteArray := prog_1_method_17_code
def yX7_inColour : MethodName := ⟨RX7, "inColour", "(III)I"⟩
abbrev cX7_ofLamp : ByteArray := prog_1_method_18_code
def yX7_ofLamp : MethodName := ⟨RX7, "ofLamp", "(II)I"⟩
abbrev cX7_count : ByteArray := prog_1_method_19_code
def yX7_count : MethodName := ⟨RX7, "count", "(I)I"⟩
abbrev cX7_needs : ByteArray := prog_1_method_20_code
def yX7_needs : MethodName := ⟨RX7, "needs", "(II)I"⟩
abbrev cX7_ifLight : ByteArray := prog_1_method_21_code
def yX7_ifLight : MethodName := ⟨RX7, "ifLight", "(III)I"⟩
abbrev cX7_bestTrim : ByteArray := prog_1_method_23_code
def yX7_bestTrim : MethodName := ⟨RX7, "bestTrim", "(II)I"⟩
abbrev cX7_undo : ByteArray := prog_1_method_29_code
def yX7_undo : MethodName := ⟨RX7, "undo", "()I"⟩
abbrev cX7_recorded : ByteArray := prog_1_method_32_code
def yX7_recorded : MethodName := ⟨RX7, "recorded", "(I)I"⟩
abbrev cX7_isWithin : ByteArray := prog_1_method_34_code
def yX7_isWithin : MethodName := ⟨RX7, "isWithin", "(III)Z"⟩
abbrev cX7_isColour : ByteArray := prog_1_method_35_code
def yX7_isColour : MethodName := ⟨RX7, "isColour", "(I)Z"⟩
abbrev cX7_isPoints : ByteArray := prog_1_method_36_code
def yX7_isPoints : MethodName := ⟨RX7, "isPoints", "(I)Z"⟩
abbrev cX7_bounded : ByteArray := prog_1_method_38_code
def yX7_bounded : MethodName := ⟨RX7, "bounded", "(I)I"⟩
def RX8 : String := "TimingLightsModel"
def TX8 : u_T := fun k => match k with
  | _ => ("", "", "", false)
def tyX8 : Nat → FieldType := fun k => match k with
  | _ => .int
abbrev wsX80 : List Cond := u_ws RX8 TX8 0
theorem nmX8 : ∀ a, a < 0 → ∀ b, b < 0 → a ≠ b → (TX8 a).2.1 ≠ (TX8 b).2.1 := by decide +kernel
theorem tyX8_ok : ∀ k, k < 0 → parseFieldDescriptor (TX8 k).2.2.1 = some (tyX8 k) := by decide +kernel
def RJ9 : String := "java/lang/Math"
def TJ9 : u_T := fun k => match k with
  | _ => ("", "", "", false)
def tyJ9 : Nat → FieldType := fun k => match k with
  | _ => .int
abbrev wsJ90 : List Cond := u_ws RJ9 TJ9 0
theorem nmJ9 : ∀ a, a < 0 → ∀ b, b < 0 → a ≠ b → (TJ9 a).2.1 ≠ (TJ9 b).2.1 := by decide +kernel
theorem tyJ9_ok : ∀ k, k < 0 → parseFieldDescriptor (TJ9 k).2.2.1 = some (tyJ9 k) := by decide +kernel
abbrev cJ9_abs_0f7a4 : ByteArray := prog_11_method_59_code
def yJ9_abs_0f7a4 : MethodName := ⟨RJ9, "abs", "(I)I"⟩
abbrev cJ9_max_7cf53 : ByteArray := prog_11_method_65_code
def yJ9_max_7cf53 : MethodName := ⟨RJ9, "max", "(II)I"⟩
abbrev cJ9_min_7cf53 : ByteArray := prog_11_method_69_code
def yJ9_min_7cf53 : MethodName := ⟨RJ9, "min", "(II)I"⟩
def RJ10 : String := "java/lang/System"
def TJ10 : u_T := fun k => match k with
  | _ => ("", "", "", false)
def tyJ10 : Nat → FieldType := fun k => match k with
  | _ => .int
abbrev wsJ100 : List Cond := u_ws RJ10 TJ10 0
theorem nmJ10 : ∀ a, a < 0 → ∀ b, b < 0 → a ≠ b → (TJ10 a).2.1 ≠ (TJ10 b).2.1 := by decide +kernel
theorem tyJ10_ok : ∀ k, k < 0 → parseFieldDescriptor (TJ10 k).2.2.1 = some (tyJ10 k) := by decide +kernel
def RL : String := "TimingLightsLaw"
abbrev cL_cell : ByteArray := method_2_code
def yL_cell : MethodName := ⟨RL, "cell", "([II)I"⟩
abbrev cL_low : ByteArray := method_3_code
def yL_low : MethodName := ⟨RL, "low", "(II)I"⟩
abbrev cL_size : ByteArray := method_4_code
def yL_size : MethodName := ⟨RL, "size", "(I)I"⟩
abbrev cL_prints : ByteArray := method_5_code
def yL_prints : MethodName := ⟨RL, "prints", "(III[I[I)I"⟩
abbrev cL_off : ByteArray := method_6_code
def yL_off : MethodName := ⟨RL, "off", "(II[I[I[I[I)I"⟩
abbrev cL_isBad : ByteArray := method_7_code
def yL_isBad : MethodName := ⟨RL, "isBad", "(I[I[I)Z"⟩
abbrev cL_jumps : ByteArray := method_8_code
def yL_jumps : MethodName := ⟨RL, "jumps", "(I[I[I[I)Z"⟩
abbrev cL_shift : ByteArray := method_9_code
def yL_shift : MethodName := ⟨RL, "shift", "(II[I[I[I[I[I[I)V"⟩
abbrev cL_copy : ByteArray := method_10_code
def yL_copy : MethodName := ⟨RL, "copy", "(II[I[I[I[I[I)V"⟩
abbrev cL_forget : ByteArray := method_11_code
def yL_forget : MethodName := ⟨RL, "forget", "(I[I)V"⟩
abbrev cL_feet : ByteArray := method_12_code
def yL_feet : MethodName := ⟨RL, "feet", "(I[I)I"⟩
abbrev cL_corrects : ByteArray := method_13_code
def yL_corrects : MethodName := ⟨RL, "corrects", "(I[I[I[I)I"⟩
abbrev cL_print : ByteArray := method_14_code
def yL_print : MethodName := ⟨RL, "print", "([I[I[I[I[I[I)I"⟩
abbrev cL_call : ByteArray := method_15_code
def yL_call : MethodName := ⟨RL, "call", "(LTimingLights;IIII)I"⟩
abbrev cL_ofShot : ByteArray := method_16_code
def yL_ofShot : MethodName := ⟨RL, "ofShot", "(IIII[I[I[I[I[I[I)I"⟩
abbrev cL_due : ByteArray := method_17_code
def yL_due : MethodName := ⟨RL, "due", "(IIII[I[I[I[I[I[I)I"⟩
abbrev cL_isShot : ByteArray := method_18_code
def yL_isShot : MethodName := ⟨RL, "isShot", "(LTimingLights;III[I[I[I[I[I[I)Z"⟩
abbrev cL_isBest : ByteArray := method_19_code
def yL_isBest : MethodName := ⟨RL, "isBest", "(LTimingLights;I[I[I[I[I)Z"⟩
abbrev cL_isSo : ByteArray := method_20_code
def yL_isSo : MethodName := ⟨RL, "isSo", "(LTimingLights;I[I[I[I[I[I[I)Z"⟩
abbrev cL_told : ByteArray := method_21_code
def yL_told : MethodName := ⟨RL, "told", "(LTimingLights;)J"⟩
abbrev cL_law : ByteArray := code
def yL_law : MethodName := ⟨RL, "law", "([I)Z"⟩
abbrev vwCl : List vw_C := [(RX1, TX1, 3), (RX2, TX2, 8), (RX3, TX3, 1), (RX4, TX4, 1), (RX7, TX7, 7)]
/-- the tables' words that stay: one list for every method -/
def bw : List Cond := lw_tbl.filter goodWord
theorem bw_of {w : Cond} {i : Nat} (h : lw_tbl[i]? = some w) (g : goodWord w = true) : w ∈ bw := List.mem_filter.mpr ⟨List.mem_of_getElem? h, g⟩
theorem bw_hts {args : Array Value} {s : State} (h : ∀ w ∈ lw_tbl, w.before args s = true) : ∀ w ∈ bw, w.before args s = true := fun w hw => h w (List.mem_filter.mp hw).1
theorem bw_good {y : MethodName} {c : ByteArray} {n : Nat} {r : Option FieldType} (h : Cond.code y c n r ∈ bw) : GoodIn bw (Cond.code y c n r :: bw) := by
  have g : ∀ w ∈ bw, w ∈ bw ∧ ((w.onTables && w.keeps) = true ∨ ∃ ty, w = .arrayClass ty) := fun w hw => ⟨hw, good_of_word (List.mem_filter.mp hw).2⟩
  intro w hw
  rcases List.mem_cons.mp hw with e | e
  · rw [e]; exact g _ h
  · exact g _ e
theorem bw_0 : (.selects RX7 yX7_recorded yX7_recorded : Cond) ∈ bw := bw_of (i := 0) (by decide +kernel) rfl
theorem bw_1 : (.initialized RL : Cond) ∈ bw := bw_of (i := 1) (by decide +kernel) rfl
theorem bw_2 : (.initialized RX7 : Cond) ∈ bw := bw_of (i := 2) (by decide +kernel) rfl
theorem bw_3 : (.initialized RX3 : Cond) ∈ bw := bw_of (i := 3) (by decide +kernel) rfl
theorem bw_4 : (.initialized RJ10 : Cond) ∈ bw := bw_of (i := 4) (by decide +kernel) rfl
theorem bw_5 : (.initialized RX2 : Cond) ∈ bw := bw_of (i := 5) (by decide +kernel) rfl
theorem bw_6 : (.initialized RX1 : Cond) ∈ bw := bw_of (i := 6) (by decide +kernel) rfl
theorem bw_7 : (.initialized RX4 : Cond) ∈ bw := bw_of (i := 7) (by decide +kernel) rfl
theorem bw_8 : (.initialized RJ9 : Cond) ∈ bw := bw_of (i := 8) (by decide +kernel) rfl
theorem bw_9 : (.initialized RX5 : Cond) ∈ bw := bw_of (i := 9) (by decide +kernel) rfl
theorem bw_10 : (.initialized RX0 : Cond) ∈ bw := bw_of (i := 10) (by decide +kernel) rfl
theorem bw_11 : (.initialized RX6 : Cond) ∈ bw := bw_of (i := 11) (by decide +kernel) rfl
theorem bw_12 : (.classLink RL 45 "TimingLights" : Cond) ∈ bw := bw_of (i := 12) (by decide +kernel) rfl
theorem bw_13 : (.instantiable RX7 7 : Cond) ∈ bw := bw_of (i := 13) (by decide +kernel) rfl
theorem bw_14 : (.methodLink RL 143 yX7_init : Cond) ∈ bw := bw_of (i := 14) (by decide +kernel) rfl
theorem bw_15 : (.instanceMethod yX7_init : Cond) ∈ bw := bw_of (i := 15) (by decide +kernel) rfl
theorem bw_16 : (.code yX7_init cX7_init 1 (Option.none : Option Jvm.ClassFile.FieldType) : Cond) ∈ bw := bw_of (i := 16) (by decide +kernel) rfl
theorem bw_17 : (.methodLink RX7 1 Lib.objectInit : Cond) ∈ bw := bw_of (i := 17) (by decide +kernel) rfl
theorem bw_18 : (.instanceMethod Lib.objectInit : Cond) ∈ bw := bw_of (i := 18) (by decide +kernel) rfl
theorem bw_19 : (.code Lib.objectInit object_method_1_code 1 (Option.none : Option Jvm.ClassFile.FieldType) : Cond) ∈ bw := bw_of (i := 19) (by decide +kernel) rfl
theorem bw_20 : (.classLink RX7 7 "TimingLights$Reel" : Cond) ∈ bw := bw_of (i := 20) (by decide +kernel) rfl
theorem bw_21 : (.instantiable RX3 1 : Cond) ∈ bw := bw_of (i := 21) (by decide +kernel) rfl
theorem bw_22 : (.methodLink RX7 9 yX3_init : Cond) ∈ bw := bw_of (i := 22) (by decide +kernel) rfl
theorem bw_23 : (.instanceMethod yX3_init : Cond) ∈ bw := bw_of (i := 23) (by decide +kernel) rfl
theorem bw_24 : (.code yX3_init cX3_init 1 (Option.none : Option Jvm.ClassFile.FieldType) : Cond) ∈ bw := bw_of (i := 24) (by decide +kernel) rfl
theorem bw_25 : (.methodLink RX3 5 Lib.objectInit : Cond) ∈ bw := bw_of (i := 25) (by decide +kernel) rfl
theorem bw_28 : (.methodLink RX3 18 arraycopyName : Cond) ∈ bw := bw_of (i := 28) (by decide +kernel) rfl
theorem bw_29 : (.static arraycopyName : Cond) ∈ bw := bw_of (i := 29) (by decide +kernel) rfl
theorem bw_30 : (.native arraycopyName : Cond) ∈ bw := bw_of (i := 30) (by decide +kernel) rfl
theorem bw_31 : (.fieldLink RX3 11 "TimingLights$Reel" "cells" "[I" : Cond) ∈ bw := bw_of (i := 31) (by decide +kernel) rfl
theorem bw_32 : (.laysFinal RX3 "TimingLights$Reel" "cells" "[I" : Cond) ∈ bw := bw_of (i := 32) (by decide +kernel) rfl
theorem bw_35 : (.arrayClass .int : Cond) ∈ bw := bw_of (i := 35) (by decide +kernel) rfl
theorem bw_36 : (.classLink RX7 22 "TimingLights$Pad" : Cond) ∈ bw := bw_of (i := 36) (by decide +kernel) rfl
theorem bw_37 : (.instantiable RX2 8 : Cond) ∈ bw := bw_of (i := 37) (by decide +kernel) rfl
theorem bw_38 : (.methodLink RX7 24 yX2_init : Cond) ∈ bw := bw_of (i := 38) (by decide +kernel) rfl
theorem bw_39 : (.instanceMethod yX2_init : Cond) ∈ bw := bw_of (i := 39) (by decide +kernel) rfl
theorem bw_40 : (.code yX2_init cX2_init 1 (Option.none : Option Jvm.ClassFile.FieldType) : Cond) ∈ bw := bw_of (i := 40) (by decide +kernel) rfl
theorem bw_41 : (.methodLink RX2 3 Lib.objectInit : Cond) ∈ bw := bw_of (i := 41) (by decide +kernel) rfl
theorem bw_42 : (.fieldLink RX2 11 "TimingLights$Pad" "characters" "[C" : Cond) ∈ bw := bw_of (i := 42) (by decide +kernel) rfl
theorem bw_43 : (.fieldLink RX2 15 "TimingLights$Pad" "numbers" "[I" : Cond) ∈ bw := bw_of (i := 43) (by decide +kernel) rfl
theorem bw_44 : (.fieldLink RX2 19 "TimingLights$Pad" "length" "I" : Cond) ∈ bw := bw_of (i := 44) (by decide +kernel) rfl
theorem bw_45 : (.laysFinal RX2 "TimingLights$Pad" "characters" "[C" : Cond) ∈ bw := bw_of (i := 45) (by decide +kernel) rfl
theorem bw_47 : (.laysFinal RX2 "TimingLights$Pad" "numbers" "[I" : Cond) ∈ bw := bw_of (i := 47) (by decide +kernel) rfl
theorem bw_49 : (.lays RX2 "TimingLights$Pad" "length" "I" : Cond) ∈ bw := bw_of (i := 49) (by decide +kernel) rfl
theorem bw_51 : (.lays RX2 "TimingLights$Pad" "at" "I" : Cond) ∈ bw := bw_of (i := 51) (by decide +kernel) rfl
theorem bw_53 : (.lays RX2 "TimingLights$Pad" "numbersRead" "I" : Cond) ∈ bw := bw_of (i := 53) (by decide +kernel) rfl
theorem bw_55 : (.lays RX2 "TimingLights$Pad" "letter" "I" : Cond) ∈ bw := bw_of (i := 55) (by decide +kernel) rfl
theorem bw_57 : (.lays RX2 "TimingLights$Pad" "colour" "I" : Cond) ∈ bw := bw_of (i := 57) (by decide +kernel) rfl
theorem bw_59 : (.lays RX2 "TimingLights$Pad" "minus" "Z" : Cond) ∈ bw := bw_of (i := 59) (by decide +kernel) rfl
theorem bw_62 : (.arrayClass .char : Cond) ∈ bw := bw_of (i := 62) (by decide +kernel) rfl
theorem bw_63 : (.classLink RX7 29 "TimingLights$History" : Cond) ∈ bw := bw_of (i := 63) (by decide +kernel) rfl
theorem bw_64 : (.instantiable RX1 3 : Cond) ∈ bw := bw_of (i := 64) (by decide +kernel) rfl
theorem bw_65 : (.methodLink RX7 31 yX1_init : Cond) ∈ bw := bw_of (i := 65) (by decide +kernel) rfl
theorem bw_66 : (.instanceMethod yX1_init : Cond) ∈ bw := bw_of (i := 66) (by decide +kernel) rfl
theorem bw_67 : (.code yX1_init cX1_init 1 (Option.none : Option Jvm.ClassFile.FieldType) : Cond) ∈ bw := bw_of (i := 67) (by decide +kernel) rfl
theorem bw_68 : (.methodLink RX1 1 Lib.objectInit : Cond) ∈ bw := bw_of (i := 68) (by decide +kernel) rfl
theorem bw_69 : (.classLink RX1 7 "TimingLights$Shelf" : Cond) ∈ bw := bw_of (i := 69) (by decide +kernel) rfl
theorem bw_70 : (.instantiable RX4 1 : Cond) ∈ bw := bw_of (i := 70) (by decide +kernel) rfl
theorem bw_71 : (.methodLink RX1 11 yX4_init : Cond) ∈ bw := bw_of (i := 71) (by decide +kernel) rfl
theorem bw_72 : (.instanceMethod yX4_init : Cond) ∈ bw := bw_of (i := 72) (by decide +kernel) rfl
theorem bw_73 : (.code yX4_init cX4_init 2 (Option.none : Option Jvm.ClassFile.FieldType) : Cond) ∈ bw := bw_of (i := 73) (by decide +kernel) rfl
theorem bw_74 : (.methodLink RX4 1 Lib.objectInit : Cond) ∈ bw := bw_of (i := 74) (by decide +kernel) rfl
theorem bw_75 : (.methodLink RX4 7 Lib.Math.max.name : Cond) ∈ bw := bw_of (i := 75) (by decide +kernel) rfl
theorem bw_76 : (.static Lib.Math.max.name : Cond) ∈ bw := bw_of (i := 76) (by decide +kernel) rfl
theorem bw_77 : (.code Lib.Math.max.name cJ9_max_7cf53 2 (some .int) : Cond) ∈ bw := bw_of (i := 77) (by decide +kernel) rfl
theorem bw_78 : (.fieldLink RX4 15 "TimingLights$Shelf" "rows" "[I" : Cond) ∈ bw := bw_of (i := 78) (by decide +kernel) rfl
theorem bw_79 : (.laysFinal RX4 "TimingLights$Shelf" "rows" "[I" : Cond) ∈ bw := bw_of (i := 79) (by decide +kernel) rfl
theorem bw_82 : (.fieldLink RX1 14 "TimingLights$History" "shelf" "LTimingLights$Shelf;" : Cond) ∈ bw := bw_of (i := 82) (by decide +kernel) rfl
theorem bw_83 : (.fieldLink RX1 22 "TimingLights$History" "oldest" "I" : Cond) ∈ bw := bw_of (i := 83) (by decide +kernel) rfl
theorem bw_84 : (.fieldLink RX1 18 "TimingLights$History" "size" "I" : Cond) ∈ bw := bw_of (i := 84) (by decide +kernel) rfl
theorem bw_85 : (.laysFinal RX1 "TimingLights$History" "shelf" "LTimingLights$Shelf;" : Cond) ∈ bw := bw_of (i := 85) (by decide +kernel) rfl
theorem bw_87 : (.lays RX1 "TimingLights$History" "oldest" "I" : Cond) ∈ bw := bw_of (i := 87) (by decide +kernel) rfl
theorem bw_89 : (.lays RX1 "TimingLights$History" "size" "I" : Cond) ∈ bw := bw_of (i := 89) (by decide +kernel) rfl
theorem bw_92 : (.classLink RX7 36 "TimingLights$Shelf" : Cond) ∈ bw := bw_of (i := 92) (by decide +kernel) rfl
theorem bw_93 : (.methodLink RX7 38 yX4_init : Cond) ∈ bw := bw_of (i := 93) (by decide +kernel) rfl
theorem bw_94 : (.fieldLink RX7 10 "TimingLights" "reel" "LTimingLights$Reel;" : Cond) ∈ bw := bw_of (i := 94) (by decide +kernel) rfl
theorem bw_95 : (.fieldLink RX7 16 "TimingLights" "before" "LTimingLights$Reel;" : Cond) ∈ bw := bw_of (i := 95) (by decide +kernel) rfl
theorem bw_96 : (.fieldLink RX7 19 "TimingLights" "trial" "LTimingLights$Reel;" : Cond) ∈ bw := bw_of (i := 96) (by decide +kernel) rfl
theorem bw_97 : (.fieldLink RX7 25 "TimingLights" "pad" "LTimingLights$Pad;" : Cond) ∈ bw := bw_of (i := 97) (by decide +kernel) rfl
theorem bw_98 : (.fieldLink RX7 32 "TimingLights" "history" "LTimingLights$History;" : Cond) ∈ bw := bw_of (i := 98) (by decide +kernel) rfl
theorem bw_99 : (.fieldLink RX7 41 "TimingLights" "slots" "LTimingLights$Shelf;" : Cond) ∈ bw := bw_of (i := 99) (by decide +kernel) rfl
theorem bw_100 : (.laysFinal RX7 "TimingLights" "reel" "LTimingLights$Reel;" : Cond) ∈ bw := bw_of (i := 100) (by decide +kernel) rfl
theorem bw_102 : (.laysFinal RX7 "TimingLights" "before" "LTimingLights$Reel;" : Cond) ∈ bw := bw_of (i := 102) (by decide +kernel) rfl
theorem bw_104 : (.laysFinal RX7 "TimingLights" "trial" "LTimingLights$Reel;" : Cond) ∈ bw := bw_of (i := 104) (by decide +kernel) rfl
theorem bw_106 : (.laysFinal RX7 "TimingLights" "pad" "LTimingLights$Pad;" : Cond) ∈ bw := bw_of (i := 106) (by decide +kernel) rfl
theorem bw_108 : (.laysFinal RX7 "TimingLights" "history" "LTimingLights$History;" : Cond) ∈ bw := bw_of (i := 108) (by decide +kernel) rfl
theorem bw_110 : (.laysFinal RX7 "TimingLights" "slots" "LTimingLights$Shelf;" : Cond) ∈ bw := bw_of (i := 110) (by decide +kernel) rfl
theorem bw_112 : (.lays RX7 "TimingLights" "slotsFilled" "I" : Cond) ∈ bw := bw_of (i := 112) (by decide +kernel) rfl
theorem bw_115 : (.methodLink RL 156 yX7_undo : Cond) ∈ bw := bw_of (i := 115) (by decide +kernel) rfl
theorem bw_116 : (.instanceMethod yX7_undo : Cond) ∈ bw := bw_of (i := 116) (by decide +kernel) rfl
theorem bw_117 : (.selects RX7 yX7_undo yX7_undo : Cond) ∈ bw := bw_of (i := 117) (by decide +kernel) rfl
theorem bw_118 : (.code yX7_undo cX7_undo 1 (some .int) : Cond) ∈ bw := bw_of (i := 118) (by decide +kernel) rfl
theorem bw_119 : (.methodLink RX7 150 yX1_size : Cond) ∈ bw := bw_of (i := 119) (by decide +kernel) rfl
theorem bw_120 : (.instanceMethod yX1_size : Cond) ∈ bw := bw_of (i := 120) (by decide +kernel) rfl
theorem bw_121 : (.selects RX1 yX1_size yX1_size : Cond) ∈ bw := bw_of (i := 121) (by decide +kernel) rfl
theorem bw_122 : (.code yX1_size cX1_size 1 (some .int) : Cond) ∈ bw := bw_of (i := 122) (by decide +kernel) rfl
theorem bw_123 : (.methodLink RX7 201 yX1_takeBack : Cond) ∈ bw := bw_of (i := 123) (by decide +kernel) rfl
theorem bw_124 : (.instanceMethod yX1_takeBack : Cond) ∈ bw := bw_of (i := 124) (by decide +kernel) rfl
theorem bw_125 : (.selects RX1 yX1_takeBack yX1_takeBack : Cond) ∈ bw := bw_of (i := 125) (by decide +kernel) rfl
theorem bw_126 : (.code yX1_takeBack cX1_takeBack 2 (Option.none : Option Jvm.ClassFile.FieldType) : Cond) ∈ bw := bw_of (i := 126) (by decide +kernel) rfl
theorem bw_127 : (.methodLink RX1 29 yX4_give : Cond) ∈ bw := bw_of (i := 127) (by decide +kernel) rfl
theorem bw_128 : (.instanceMethod yX4_give : Cond) ∈ bw := bw_of (i := 128) (by decide +kernel) rfl
theorem bw_129 : (.selects RX4 yX4_give yX4_give : Cond) ∈ bw := bw_of (i := 129) (by decide +kernel) rfl
theorem bw_130 : (.code yX4_give cX4_give 3 (Option.none : Option Jvm.ClassFile.FieldType) : Cond) ∈ bw := bw_of (i := 130) (by decide +kernel) rfl
theorem bw_131 : (.methodLink RX4 25 yX3_readFrom : Cond) ∈ bw := bw_of (i := 131) (by decide +kernel) rfl
theorem bw_132 : (.instanceMethod yX3_readFrom : Cond) ∈ bw := bw_of (i := 132) (by decide +kernel) rfl
theorem bw_133 : (.selects RX3 yX3_readFrom yX3_readFrom : Cond) ∈ bw := bw_of (i := 133) (by decide +kernel) rfl
theorem bw_134 : (.code yX3_readFrom cX3_readFrom 3 (Option.none : Option Jvm.ClassFile.FieldType) : Cond) ∈ bw := bw_of (i := 134) (by decide +kernel) rfl
theorem bw_135 : (.methodLink RL 144 yL_cell : Cond) ∈ bw := bw_of (i := 135) (by decide +kernel) rfl
theorem bw_136 : (.static yL_cell : Cond) ∈ bw := bw_of (i := 136) (by decide +kernel) rfl
theorem bw_137 : (.code yL_cell cL_cell 2 (some .int) : Cond) ∈ bw := bw_of (i := 137) (by decide +kernel) rfl
theorem bw_138 : (.constant "TimingLightsLaw" 7 41351 : Cond) ∈ bw := bw_of (i := 138) (by decide +kernel) rfl
theorem bw_139 : (.constant "TimingLightsLaw" 8 2789213 : Cond) ∈ bw := bw_of (i := 139) (by decide +kernel) rfl
theorem bw_140 : (.methodLink RL 40 yL_low : Cond) ∈ bw := bw_of (i := 140) (by decide +kernel) rfl
theorem bw_141 : (.static yL_low : Cond) ∈ bw := bw_of (i := 141) (by decide +kernel) rfl
theorem bw_142 : (.code yL_low cL_low 2 (some .int) : Cond) ∈ bw := bw_of (i := 142) (by decide +kernel) rfl
theorem bw_143 : (.constant "TimingLightsLaw" 9 2147483647 : Cond) ∈ bw := bw_of (i := 143) (by decide +kernel) rfl
theorem bw_144 : (.methodLink RL 152 yL_call : Cond) ∈ bw := bw_of (i := 144) (by decide +kernel) rfl
theorem bw_145 : (.static yL_call : Cond) ∈ bw := bw_of (i := 145) (by decide +kernel) rfl
theorem bw_146 : (.code yL_call cL_call 5 (some .int) : Cond) ∈ bw := bw_of (i := 146) (by decide +kernel) rfl
theorem bw_147 : (.methodLink RL 44 yX7_shot : Cond) ∈ bw := bw_of (i := 147) (by decide +kernel) rfl
theorem bw_148 : (.instanceMethod yX7_shot : Cond) ∈ bw := bw_of (i := 148) (by decide +kernel) rfl
theorem bw_149 : (.selects RX7 yX7_shot yX7_shot : Cond) ∈ bw := bw_of (i := 149) (by decide +kernel) rfl
theorem bw_150 : (.code yX7_shot cX7_shot 6 (some .int) : Cond) ∈ bw := bw_of (i := 150) (by decide +kernel) rfl
theorem bw_151 : (.methodLink RX7 45 yX3_become : Cond) ∈ bw := bw_of (i := 151) (by decide +kernel) rfl
theorem bw_152 : (.instanceMethod yX3_become : Cond) ∈ bw := bw_of (i := 152) (by decide +kernel) rfl
theorem bw_153 : (.selects RX3 yX3_become yX3_become : Cond) ∈ bw := bw_of (i := 153) (by decide +kernel) rfl
theorem bw_154 : (.code yX3_become cX3_become 2 (Option.none : Option Jvm.ClassFile.FieldType) : Cond) ∈ bw := bw_of (i := 154) (by decide +kernel) rfl
theorem bw_155 : (.methodLink RX7 59 yX0_addShot : Cond) ∈ bw := bw_of (i := 155) (by decide +kernel) rfl
theorem bw_156 : (.static yX0_addShot : Cond) ∈ bw := bw_of (i := 156) (by decide +kernel) rfl
theorem bw_157 : (.code yX0_addShot cX0_addShot 7 (some .int) : Cond) ∈ bw := bw_of (i := 157) (by decide +kernel) rfl
theorem bw_158 : (.methodLink RX0 28 yX3_shots : Cond) ∈ bw := bw_of (i := 158) (by decide +kernel) rfl
theorem bw_159 : (.instanceMethod yX3_shots : Cond) ∈ bw := bw_of (i := 159) (by decide +kernel) rfl
theorem bw_160 : (.selects RX3 yX3_shots yX3_shots : Cond) ∈ bw := bw_of (i := 160) (by decide +kernel) rfl
theorem bw_161 : (.code yX3_shots cX3_shots 1 (some .int) : Cond) ∈ bw := bw_of (i := 161) (by decide +kernel) rfl
theorem bw_162 : (.methodLink RX3 24 yX3_read : Cond) ∈ bw := bw_of (i := 162) (by decide +kernel) rfl
theorem bw_163 : (.instanceMethod yX3_read : Cond) ∈ bw := bw_of (i := 163) (by decide +kernel) rfl
theorem bw_164 : (.selects RX3 yX3_read yX3_read : Cond) ∈ bw := bw_of (i := 164) (by decide +kernel) rfl
theorem bw_165 : (.code yX3_read cX3_read 2 (some .int) : Cond) ∈ bw := bw_of (i := 165) (by decide +kernel) rfl
theorem bw_167 : (.static yX7_isWithin : Cond) ∈ bw := bw_of (i := 167) (by decide +kernel) rfl
theorem bw_168 : (.code yX7_isWithin cX7_isWithin 3 (some .boolean) : Cond) ∈ bw := bw_of (i := 168) (by decide +kernel) rfl
theorem bw_170 : (.static yX7_isPoints : Cond) ∈ bw := bw_of (i := 170) (by decide +kernel) rfl
theorem bw_171 : (.code yX7_isPoints cX7_isPoints 1 (some .boolean) : Cond) ∈ bw := bw_of (i := 171) (by decide +kernel) rfl
theorem bw_172 : (.methodLink RX7 168 yX7_isWithin : Cond) ∈ bw := bw_of (i := 172) (by decide +kernel) rfl
theorem bw_173 : (.methodLink RX0 36 yX3_openPlace : Cond) ∈ bw := bw_of (i := 173) (by decide +kernel) rfl
theorem bw_174 : (.instanceMethod yX3_openPlace : Cond) ∈ bw := bw_of (i := 174) (by decide +kernel) rfl
theorem bw_175 : (.selects RX3 yX3_openPlace yX3_openPlace : Cond) ∈ bw := bw_of (i := 175) (by decide +kernel) rfl
theorem bw_176 : (.code yX3_openPlace cX3_openPlace 3 (Option.none : Option Jvm.ClassFile.FieldType) : Cond) ∈ bw := bw_of (i := 176) (by decide +kernel) rfl
theorem bw_177 : (.methodLink RX3 28 yX3_shots : Cond) ∈ bw := bw_of (i := 177) (by decide +kernel) rfl
theorem bw_178 : (.methodLink RX3 32 Lib.Math.min.name : Cond) ∈ bw := bw_of (i := 178) (by decide +kernel) rfl
theorem bw_179 : (.static Lib.Math.min.name : Cond) ∈ bw := bw_of (i := 179) (by decide +kernel) rfl
theorem bw_180 : (.code Lib.Math.min.name cJ9_min_7cf53 2 (some .int) : Cond) ∈ bw := bw_of (i := 180) (by decide +kernel) rfl
theorem bw_181 : (.methodLink RX3 38 yX3_copyShot : Cond) ∈ bw := bw_of (i := 181) (by decide +kernel) rfl
theorem bw_182 : (.instanceMethod yX3_copyShot : Cond) ∈ bw := bw_of (i := 182) (by decide +kernel) rfl
theorem bw_183 : (.selects RX3 yX3_copyShot yX3_copyShot : Cond) ∈ bw := bw_of (i := 183) (by decide +kernel) rfl
theorem bw_184 : (.code yX3_copyShot cX3_copyShot 4 (Option.none : Option Jvm.ClassFile.FieldType) : Cond) ∈ bw := bw_of (i := 184) (by decide +kernel) rfl
theorem bw_185 : (.methodLink RX3 45 yX3_readShot : Cond) ∈ bw := bw_of (i := 185) (by decide +kernel) rfl
theorem bw_186 : (.instanceMethod yX3_readShot : Cond) ∈ bw := bw_of (i := 186) (by decide +kernel) rfl
theorem bw_187 : (.selects RX3 yX3_readShot yX3_readShot : Cond) ∈ bw := bw_of (i := 187) (by decide +kernel) rfl
theorem bw_188 : (.code yX3_readShot cX3_readShot 4 (some .int) : Cond) ∈ bw := bw_of (i := 188) (by decide +kernel) rfl
theorem bw_189 : (.methodLink RX3 48 yX3_writeShot : Cond) ∈ bw := bw_of (i := 189) (by decide +kernel) rfl
theorem bw_190 : (.instanceMethod yX3_writeShot : Cond) ∈ bw := bw_of (i := 190) (by decide +kernel) rfl
theorem bw_191 : (.selects RX3 yX3_writeShot yX3_writeShot : Cond) ∈ bw := bw_of (i := 191) (by decide +kernel) rfl
theorem bw_192 : (.code yX3_writeShot cX3_writeShot 5 (Option.none : Option Jvm.ClassFile.FieldType) : Cond) ∈ bw := bw_of (i := 192) (by decide +kernel) rfl
theorem bw_193 : (.methodLink RX3 42 yX3_write : Cond) ∈ bw := bw_of (i := 193) (by decide +kernel) rfl
theorem bw_194 : (.instanceMethod yX3_write : Cond) ∈ bw := bw_of (i := 194) (by decide +kernel) rfl
theorem bw_195 : (.selects RX3 yX3_write yX3_write : Cond) ∈ bw := bw_of (i := 195) (by decide +kernel) rfl
theorem bw_196 : (.code yX3_write cX3_write 3 (Option.none : Option Jvm.ClassFile.FieldType) : Cond) ∈ bw := bw_of (i := 196) (by decide +kernel) rfl
theorem bw_197 : (.methodLink RX0 40 yX3_writeShot : Cond) ∈ bw := bw_of (i := 197) (by decide +kernel) rfl
theorem bw_198 : (.methodLink RX7 55 yX7_recorded : Cond) ∈ bw := bw_of (i := 198) (by decide +kernel) rfl
theorem bw_200 : (.instanceMethod yX7_recorded : Cond) ∈ bw := bw_of (i := 200) (by decide +kernel) rfl
theorem bw_201 : (.code yX7_recorded cX7_recorded 2 (some .int) : Cond) ∈ bw := bw_of (i := 201) (by decide +kernel) rfl
theorem bw_202 : (.methodLink RX7 218 yX1_record : Cond) ∈ bw := bw_of (i := 202) (by decide +kernel) rfl
theorem bw_203 : (.instanceMethod yX1_record : Cond) ∈ bw := bw_of (i := 203) (by decide +kernel) rfl
theorem bw_204 : (.selects RX1 yX1_record yX1_record : Cond) ∈ bw := bw_of (i := 204) (by decide +kernel) rfl
theorem bw_205 : (.code yX1_record cX1_record 2 (Option.none : Option Jvm.ClassFile.FieldType) : Cond) ∈ bw := bw_of (i := 205) (by decide +kernel) rfl
theorem bw_206 : (.methodLink RX1 25 yX4_keep : Cond) ∈ bw := bw_of (i := 206) (by decide +kernel) rfl
theorem bw_207 : (.instanceMethod yX4_keep : Cond) ∈ bw := bw_of (i := 207) (by decide +kernel) rfl
theorem bw_208 : (.selects RX4 yX4_keep yX4_keep : Cond) ∈ bw := bw_of (i := 208) (by decide +kernel) rfl
theorem bw_209 : (.code yX4_keep cX4_keep 3 (Option.none : Option Jvm.ClassFile.FieldType) : Cond) ∈ bw := bw_of (i := 209) (by decide +kernel) rfl
theorem bw_210 : (.methodLink RX4 21 yX3_writeTo : Cond) ∈ bw := bw_of (i := 210) (by decide +kernel) rfl
theorem bw_211 : (.instanceMethod yX3_writeTo : Cond) ∈ bw := bw_of (i := 211) (by decide +kernel) rfl
theorem bw_212 : (.selects RX3 yX3_writeTo yX3_writeTo : Cond) ∈ bw := bw_of (i := 212) (by decide +kernel) rfl
theorem bw_213 : (.code yX3_writeTo cX3_writeTo 3 (Option.none : Option Jvm.ClassFile.FieldType) : Cond) ∈ bw := bw_of (i := 213) (by decide +kernel) rfl
theorem bw_214 : (.methodLink RL 50 yX7_light : Cond) ∈ bw := bw_of (i := 214) (by decide +kernel) rfl
theorem bw_215 : (.instanceMethod yX7_light : Cond) ∈ bw := bw_of (i := 215) (by decide +kernel) rfl
theorem bw_216 : (.selects RX7 yX7_light yX7_light : Cond) ∈ bw := bw_of (i := 216) (by decide +kernel) rfl
theorem bw_217 : (.code yX7_light cX7_light 4 (some .int) : Cond) ∈ bw := bw_of (i := 217) (by decide +kernel) rfl
theorem bw_218 : (.methodLink RX7 67 yX0_changeLight : Cond) ∈ bw := bw_of (i := 218) (by decide +kernel) rfl
theorem bw_219 : (.static yX0_changeLight : Cond) ∈ bw := bw_of (i := 219) (by decide +kernel) rfl
theorem bw_220 : (.code yX0_changeLight cX0_changeLight 5 (some .int) : Cond) ∈ bw := bw_of (i := 220) (by decide +kernel) rfl
theorem bw_221 : (.methodLink RX0 44 yX3_hasShot : Cond) ∈ bw := bw_of (i := 221) (by decide +kernel) rfl
theorem bw_222 : (.instanceMethod yX3_hasShot : Cond) ∈ bw := bw_of (i := 222) (by decide +kernel) rfl
theorem bw_223 : (.selects RX3 yX3_hasShot yX3_hasShot : Cond) ∈ bw := bw_of (i := 223) (by decide +kernel) rfl
theorem bw_224 : (.code yX3_hasShot cX3_hasShot 2 (some .boolean) : Cond) ∈ bw := bw_of (i := 224) (by decide +kernel) rfl
theorem bw_226 : (.static yX7_isColour : Cond) ∈ bw := bw_of (i := 226) (by decide +kernel) rfl
theorem bw_227 : (.code yX7_isColour cX7_isColour 1 (some .boolean) : Cond) ∈ bw := bw_of (i := 227) (by decide +kernel) rfl
theorem bw_228 : (.methodLink RX0 53 yX3_readShot : Cond) ∈ bw := bw_of (i := 228) (by decide +kernel) rfl
theorem bw_229 : (.methodLink RL 54 yX7_wish : Cond) ∈ bw := bw_of (i := 229) (by decide +kernel) rfl
theorem bw_230 : (.instanceMethod yX7_wish : Cond) ∈ bw := bw_of (i := 230) (by decide +kernel) rfl
theorem bw_231 : (.selects RX7 yX7_wish yX7_wish : Cond) ∈ bw := bw_of (i := 231) (by decide +kernel) rfl
theorem bw_232 : (.code yX7_wish cX7_wish 4 (some .int) : Cond) ∈ bw := bw_of (i := 232) (by decide +kernel) rfl
theorem bw_233 : (.methodLink RX7 71 yX0_changeWish : Cond) ∈ bw := bw_of (i := 233) (by decide +kernel) rfl
theorem bw_234 : (.static yX0_changeWish : Cond) ∈ bw := bw_of (i := 234) (by decide +kernel) rfl
theorem bw_235 : (.code yX0_changeWish cX0_changeWish 5 (some .int) : Cond) ∈ bw := bw_of (i := 235) (by decide +kernel) rfl
theorem bw_236 : (.methodLink RL 57 yX7_move : Cond) ∈ bw := bw_of (i := 236) (by decide +kernel) rfl
theorem bw_237 : (.instanceMethod yX7_move : Cond) ∈ bw := bw_of (i := 237) (by decide +kernel) rfl
theorem bw_238 : (.selects RX7 yX7_move yX7_move : Cond) ∈ bw := bw_of (i := 238) (by decide +kernel) rfl
theorem bw_239 : (.code yX7_move cX7_move 3 (some .int) : Cond) ∈ bw := bw_of (i := 239) (by decide +kernel) rfl
theorem bw_240 : (.methodLink RX7 74 yX0_moveShot : Cond) ∈ bw := bw_of (i := 240) (by decide +kernel) rfl
theorem bw_241 : (.static yX0_moveShot : Cond) ∈ bw := bw_of (i := 241) (by decide +kernel) rfl
theorem bw_242 : (.code yX0_moveShot cX0_moveShot 4 (some .int) : Cond) ∈ bw := bw_of (i := 242) (by decide +kernel) rfl
theorem bw_243 : (.methodLink RX0 57 yX3_swapShots : Cond) ∈ bw := bw_of (i := 243) (by decide +kernel) rfl
theorem bw_244 : (.instanceMethod yX3_swapShots : Cond) ∈ bw := bw_of (i := 244) (by decide +kernel) rfl
theorem bw_245 : (.selects RX3 yX3_swapShots yX3_swapShots : Cond) ∈ bw := bw_of (i := 245) (by decide +kernel) rfl
theorem bw_246 : (.code yX3_swapShots cX3_swapShots 5 (Option.none : Option Jvm.ClassFile.FieldType) : Cond) ∈ bw := bw_of (i := 246) (by decide +kernel) rfl
theorem bw_247 : (.methodLink RX0 61 Lib.Math.abs.name : Cond) ∈ bw := bw_of (i := 247) (by decide +kernel) rfl
theorem bw_248 : (.static Lib.Math.abs.name : Cond) ∈ bw := bw_of (i := 248) (by decide +kernel) rfl
theorem bw_249 : (.code Lib.Math.abs.name cJ9_abs_0f7a4 1 (some .int) : Cond) ∈ bw := bw_of (i := 249) (by decide +kernel) rfl
theorem bw_250 : (.methodLink RL 60 yX7_split : Cond) ∈ bw := bw_of (i := 250) (by decide +kernel) rfl
theorem bw_251 : (.instanceMethod yX7_split : Cond) ∈ bw := bw_of (i := 251) (by decide +kernel) rfl
theorem bw_252 : (.selects RX7 yX7_split yX7_split : Cond) ∈ bw := bw_of (i := 252) (by decide +kernel) rfl
theorem bw_253 : (.code yX7_split cX7_split 3 (some .int) : Cond) ∈ bw := bw_of (i := 253) (by decide +kernel) rfl
theorem bw_254 : (.methodLink RX7 77 yX0_splitShot : Cond) ∈ bw := bw_of (i := 254) (by decide +kernel) rfl
theorem bw_255 : (.static yX0_splitShot : Cond) ∈ bw := bw_of (i := 255) (by decide +kernel) rfl
theorem bw_256 : (.code yX0_splitShot cX0_splitShot 4 (some .int) : Cond) ∈ bw := bw_of (i := 256) (by decide +kernel) rfl
theorem bw_257 : (.methodLink RL 63 yX7_join : Cond) ∈ bw := bw_of (i := 257) (by decide +kernel) rfl
theorem bw_258 : (.instanceMethod yX7_join : Cond) ∈ bw := bw_of (i := 258) (by decide +kernel) rfl
theorem bw_259 : (.selects RX7 yX7_join yX7_join : Cond) ∈ bw := bw_of (i := 259) (by decide +kernel) rfl
theorem bw_260 : (.code yX7_join cX7_join 2 (some .int) : Cond) ∈ bw := bw_of (i := 260) (by decide +kernel) rfl
theorem bw_261 : (.methodLink RX7 80 yX0_joinShots : Cond) ∈ bw := bw_of (i := 261) (by decide +kernel) rfl
theorem bw_262 : (.static yX0_joinShots : Cond) ∈ bw := bw_of (i := 262) (by decide +kernel) rfl
theorem bw_263 : (.code yX0_joinShots cX0_joinShots 3 (some .int) : Cond) ∈ bw := bw_of (i := 263) (by decide +kernel) rfl
theorem bw_264 : (.methodLink RX0 67 yX0_isSameStock : Cond) ∈ bw := bw_of (i := 264) (by decide +kernel) rfl
theorem bw_265 : (.static yX0_isSameStock : Cond) ∈ bw := bw_of (i := 265) (by decide +kernel) rfl
theorem bw_266 : (.code yX0_isSameStock cX0_isSameStock 4 (some .boolean) : Cond) ∈ bw := bw_of (i := 266) (by decide +kernel) rfl
theorem bw_267 : (.methodLink RX0 47 yX3_closePlace : Cond) ∈ bw := bw_of (i := 267) (by decide +kernel) rfl
theorem bw_268 : (.instanceMethod yX3_closePlace : Cond) ∈ bw := bw_of (i := 268) (by decide +kernel) rfl
theorem bw_269 : (.selects RX3 yX3_closePlace yX3_closePlace : Cond) ∈ bw := bw_of (i := 269) (by decide +kernel) rfl
theorem bw_270 : (.code yX3_closePlace cX3_closePlace 3 (Option.none : Option Jvm.ClassFile.FieldType) : Cond) ∈ bw := bw_of (i := 270) (by decide +kernel) rfl
theorem bw_271 : (.methodLink RL 66 yX7_print : Cond) ∈ bw := bw_of (i := 271) (by decide +kernel) rfl
theorem bw_272 : (.instanceMethod yX7_print : Cond) ∈ bw := bw_of (i := 272) (by decide +kernel) rfl
theorem bw_273 : (.selects RX7 yX7_print yX7_print : Cond) ∈ bw := bw_of (i := 273) (by decide +kernel) rfl
theorem bw_274 : (.code yX7_print cX7_print 1 (some .int) : Cond) ∈ bw := bw_of (i := 274) (by decide +kernel) rfl
theorem bw_275 : (.methodLink RX7 83 yX0_makePrint : Cond) ∈ bw := bw_of (i := 275) (by decide +kernel) rfl
theorem bw_276 : (.static yX0_makePrint : Cond) ∈ bw := bw_of (i := 276) (by decide +kernel) rfl
theorem bw_277 : (.code yX0_makePrint cX0_makePrint 3 (some .int) : Cond) ∈ bw := bw_of (i := 277) (by decide +kernel) rfl
theorem bw_278 : (.methodLink RX0 71 yX0_hoursOfPrint : Cond) ∈ bw := bw_of (i := 278) (by decide +kernel) rfl
theorem bw_279 : (.static yX0_hoursOfPrint : Cond) ∈ bw := bw_of (i := 279) (by decide +kernel) rfl
theorem bw_280 : (.code yX0_hoursOfPrint cX0_hoursOfPrint 1 (some .int) : Cond) ∈ bw := bw_of (i := 280) (by decide +kernel) rfl
theorem bw_281 : (.methodLink RX0 94 yX5_feetBefore : Cond) ∈ bw := bw_of (i := 281) (by decide +kernel) rfl
theorem bw_282 : (.static yX5_feetBefore : Cond) ∈ bw := bw_of (i := 282) (by decide +kernel) rfl
theorem bw_283 : (.code yX5_feetBefore cX5_feetBefore 4 (some .int) : Cond) ∈ bw := bw_of (i := 283) (by decide +kernel) rfl
theorem bw_284 : (.methodLink RX5 11 yX3_readShot : Cond) ∈ bw := bw_of (i := 284) (by decide +kernel) rfl
theorem bw_285 : (.methodLink RX0 75 yX3_read : Cond) ∈ bw := bw_of (i := 285) (by decide +kernel) rfl
theorem bw_286 : (.methodLink RX0 78 yX0_runPrinter : Cond) ∈ bw := bw_of (i := 286) (by decide +kernel) rfl
theorem bw_287 : (.static yX0_runPrinter : Cond) ∈ bw := bw_of (i := 287) (by decide +kernel) rfl
theorem bw_288 : (.code yX0_runPrinter cX0_runPrinter 5 (some .int) : Cond) ∈ bw := bw_of (i := 288) (by decide +kernel) rfl
theorem bw_289 : (.methodLink RX0 81 yX5_offWith : Cond) ∈ bw := bw_of (i := 289) (by decide +kernel) rfl
theorem bw_290 : (.static yX5_offWith : Cond) ∈ bw := bw_of (i := 290) (by decide +kernel) rfl
theorem bw_291 : (.code yX5_offWith cX5_offWith 6 (some .int) : Cond) ∈ bw := bw_of (i := 291) (by decide +kernel) rfl
theorem bw_292 : (.methodLink RX5 25 yX5_printsWith : Cond) ∈ bw := bw_of (i := 292) (by decide +kernel) rfl
theorem bw_293 : (.static yX5_printsWith : Cond) ∈ bw := bw_of (i := 293) (by decide +kernel) rfl
theorem bw_294 : (.code yX5_printsWith cX5_printsWith 6 (some .int) : Cond) ∈ bw := bw_of (i := 294) (by decide +kernel) rfl
theorem bw_295 : (.methodLink RX5 15 yX3_lampLoss : Cond) ∈ bw := bw_of (i := 295) (by decide +kernel) rfl
theorem bw_296 : (.instanceMethod yX3_lampLoss : Cond) ∈ bw := bw_of (i := 296) (by decide +kernel) rfl
theorem bw_297 : (.selects RX3 yX3_lampLoss yX3_lampLoss : Cond) ∈ bw := bw_of (i := 297) (by decide +kernel) rfl
theorem bw_298 : (.code yX3_lampLoss cX3_lampLoss 2 (some .int) : Cond) ∈ bw := bw_of (i := 298) (by decide +kernel) rfl
theorem bw_300 : (.static yX7_bounded : Cond) ∈ bw := bw_of (i := 300) (by decide +kernel) rfl
theorem bw_301 : (.code yX7_bounded cX7_bounded 1 (some .int) : Cond) ∈ bw := bw_of (i := 301) (by decide +kernel) rfl
theorem bw_302 : (.methodLink RX0 87 yX5_isBad : Cond) ∈ bw := bw_of (i := 302) (by decide +kernel) rfl
theorem bw_303 : (.static yX5_isBad : Cond) ∈ bw := bw_of (i := 303) (by decide +kernel) rfl
theorem bw_304 : (.code yX5_isBad cX5_isBad 4 (some .boolean) : Cond) ∈ bw := bw_of (i := 304) (by decide +kernel) rfl
theorem bw_305 : (.methodLink RX5 35 Lib.Math.abs.name : Cond) ∈ bw := bw_of (i := 305) (by decide +kernel) rfl
theorem bw_306 : (.methodLink RX5 40 Lib.Math.max.name : Cond) ∈ bw := bw_of (i := 306) (by decide +kernel) rfl
theorem bw_307 : (.methodLink RX5 43 yX5_isAnswered : Cond) ∈ bw := bw_of (i := 307) (by decide +kernel) rfl
theorem bw_308 : (.static yX5_isAnswered : Cond) ∈ bw := bw_of (i := 308) (by decide +kernel) rfl
theorem bw_309 : (.code yX5_isAnswered cX5_isAnswered 2 (some .boolean) : Cond) ∈ bw := bw_of (i := 309) (by decide +kernel) rfl
theorem bw_310 : (.methodLink RX5 22 yX3_read : Cond) ∈ bw := bw_of (i := 310) (by decide +kernel) rfl
theorem bw_311 : (.methodLink RX0 91 yX3_write : Cond) ∈ bw := bw_of (i := 311) (by decide +kernel) rfl
theorem bw_312 : (.methodLink RL 70 yX7_correct : Cond) ∈ bw := bw_of (i := 312) (by decide +kernel) rfl
theorem bw_313 : (.instanceMethod yX7_correct : Cond) ∈ bw := bw_of (i := 313) (by decide +kernel) rfl
theorem bw_314 : (.selects RX7 yX7_correct yX7_correct : Cond) ∈ bw := bw_of (i := 314) (by decide +kernel) rfl
theorem bw_315 : (.code yX7_correct cX7_correct 2 (some .int) : Cond) ∈ bw := bw_of (i := 315) (by decide +kernel) rfl
theorem bw_316 : (.methodLink RX7 87 yX0_correctShot : Cond) ∈ bw := bw_of (i := 316) (by decide +kernel) rfl
theorem bw_317 : (.static yX0_correctShot : Cond) ∈ bw := bw_of (i := 317) (by decide +kernel) rfl
theorem bw_318 : (.code yX0_correctShot cX0_correctShot 4 (some .int) : Cond) ∈ bw := bw_of (i := 318) (by decide +kernel) rfl
theorem bw_319 : (.methodLink RX0 98 yX5_isAnswered : Cond) ∈ bw := bw_of (i := 319) (by decide +kernel) rfl
theorem bw_320 : (.methodLink RX0 101 yX0_correctLight : Cond) ∈ bw := bw_of (i := 320) (by decide +kernel) rfl
theorem bw_321 : (.static yX0_correctLight : Cond) ∈ bw := bw_of (i := 321) (by decide +kernel) rfl
theorem bw_322 : (.code yX0_correctLight cX0_correctLight 8 (some .int) : Cond) ∈ bw := bw_of (i := 322) (by decide +kernel) rfl
theorem bw_323 : (.methodLink RX0 104 Lib.Math.max.name : Cond) ∈ bw := bw_of (i := 323) (by decide +kernel) rfl
theorem bw_325 : (.methodLink RL 73 yX7_correctAll : Cond) ∈ bw := bw_of (i := 325) (by decide +kernel) rfl
theorem bw_326 : (.instanceMethod yX7_correctAll : Cond) ∈ bw := bw_of (i := 326) (by decide +kernel) rfl
theorem bw_327 : (.selects RX7 yX7_correctAll yX7_correctAll : Cond) ∈ bw := bw_of (i := 327) (by decide +kernel) rfl
theorem bw_328 : (.code yX7_correctAll cX7_correctAll 1 (some .int) : Cond) ∈ bw := bw_of (i := 328) (by decide +kernel) rfl
theorem bw_329 : (.methodLink RX7 90 yX0_correctBadShots : Cond) ∈ bw := bw_of (i := 329) (by decide +kernel) rfl
theorem bw_330 : (.static yX0_correctBadShots : Cond) ∈ bw := bw_of (i := 330) (by decide +kernel) rfl
theorem bw_331 : (.code yX0_correctBadShots cX0_correctBadShots 3 (some .int) : Cond) ∈ bw := bw_of (i := 331) (by decide +kernel) rfl
theorem bw_332 : (.methodLink RX0 110 yX0_correctShot : Cond) ∈ bw := bw_of (i := 332) (by decide +kernel) rfl
theorem bw_333 : (.methodLink RL 76 yX7_card : Cond) ∈ bw := bw_of (i := 333) (by decide +kernel) rfl
theorem bw_334 : (.instanceMethod yX7_card : Cond) ∈ bw := bw_of (i := 334) (by decide +kernel) rfl
theorem bw_335 : (.selects RX7 yX7_card yX7_card : Cond) ∈ bw := bw_of (i := 335) (by decide +kernel) rfl
theorem bw_336 : (.code yX7_card cX7_card 1 (some .int) : Cond) ∈ bw := bw_of (i := 336) (by decide +kernel) rfl
theorem bw_337 : (.methodLink RX7 93 yX0_setByCard : Cond) ∈ bw := bw_of (i := 337) (by decide +kernel) rfl
theorem bw_338 : (.static yX0_setByCard : Cond) ∈ bw := bw_of (i := 338) (by decide +kernel) rfl
theorem bw_339 : (.code yX0_setByCard cX0_setByCard 4 (some .int) : Cond) ∈ bw := bw_of (i := 339) (by decide +kernel) rfl
theorem bw_340 : (.methodLink RX0 113 yX3_lampLoss : Cond) ∈ bw := bw_of (i := 340) (by decide +kernel) rfl
theorem bw_341 : (.methodLink RX0 116 Lib.Math.min.name : Cond) ∈ bw := bw_of (i := 341) (by decide +kernel) rfl
theorem bw_342 : (.methodLink RL 79 yX7_trim : Cond) ∈ bw := bw_of (i := 342) (by decide +kernel) rfl
theorem bw_343 : (.instanceMethod yX7_trim : Cond) ∈ bw := bw_of (i := 343) (by decide +kernel) rfl
theorem bw_344 : (.selects RX7 yX7_trim yX7_trim : Cond) ∈ bw := bw_of (i := 344) (by decide +kernel) rfl
theorem bw_345 : (.code yX7_trim cX7_trim 3 (some .int) : Cond) ∈ bw := bw_of (i := 345) (by decide +kernel) rfl
theorem bw_346 : (.methodLink RX7 96 yX0_changeTrim : Cond) ∈ bw := bw_of (i := 346) (by decide +kernel) rfl
theorem bw_347 : (.static yX0_changeTrim : Cond) ∈ bw := bw_of (i := 347) (by decide +kernel) rfl
theorem bw_348 : (.code yX0_changeTrim cX0_changeTrim 3 (some .int) : Cond) ∈ bw := bw_of (i := 348) (by decide +kernel) rfl
theorem bw_349 : (.methodLink RX0 22 yX0_exchange : Cond) ∈ bw := bw_of (i := 349) (by decide +kernel) rfl
theorem bw_350 : (.static yX0_exchange : Cond) ∈ bw := bw_of (i := 350) (by decide +kernel) rfl
theorem bw_351 : (.code yX0_exchange cX0_exchange 4 (some .int) : Cond) ∈ bw := bw_of (i := 351) (by decide +kernel) rfl
theorem bw_352 : (.methodLink RL 82 yX7_lamp : Cond) ∈ bw := bw_of (i := 352) (by decide +kernel) rfl
theorem bw_353 : (.instanceMethod yX7_lamp : Cond) ∈ bw := bw_of (i := 353) (by decide +kernel) rfl
theorem bw_354 : (.selects RX7 yX7_lamp yX7_lamp : Cond) ∈ bw := bw_of (i := 354) (by decide +kernel) rfl
theorem bw_355 : (.code yX7_lamp cX7_lamp 2 (some .int) : Cond) ∈ bw := bw_of (i := 355) (by decide +kernel) rfl
theorem bw_356 : (.methodLink RX7 99 yX0_changeLamp : Cond) ∈ bw := bw_of (i := 356) (by decide +kernel) rfl
theorem bw_357 : (.static yX0_changeLamp : Cond) ∈ bw := bw_of (i := 357) (by decide +kernel) rfl
theorem bw_358 : (.code yX0_changeLamp cX0_changeLamp 2 (some .int) : Cond) ∈ bw := bw_of (i := 358) (by decide +kernel) rfl
theorem bw_359 : (.methodLink RL 85 yX7_takeOut : Cond) ∈ bw := bw_of (i := 359) (by decide +kernel) rfl
theorem bw_360 : (.instanceMethod yX7_takeOut : Cond) ∈ bw := bw_of (i := 360) (by decide +kernel) rfl
theorem bw_361 : (.selects RX7 yX7_takeOut yX7_takeOut : Cond) ∈ bw := bw_of (i := 361) (by decide +kernel) rfl
theorem bw_362 : (.code yX7_takeOut cX7_takeOut 2 (some .int) : Cond) ∈ bw := bw_of (i := 362) (by decide +kernel) rfl
theorem bw_363 : (.methodLink RX7 63 yX0_dropShot : Cond) ∈ bw := bw_of (i := 363) (by decide +kernel) rfl
theorem bw_364 : (.static yX0_dropShot : Cond) ∈ bw := bw_of (i := 364) (by decide +kernel) rfl
theorem bw_365 : (.code yX0_dropShot cX0_dropShot 2 (some .int) : Cond) ∈ bw := bw_of (i := 365) (by decide +kernel) rfl
theorem bw_366 : (.methodLink RL 88 yX7_set : Cond) ∈ bw := bw_of (i := 366) (by decide +kernel) rfl
theorem bw_367 : (.instanceMethod yX7_set : Cond) ∈ bw := bw_of (i := 367) (by decide +kernel) rfl
theorem bw_368 : (.selects RX7 yX7_set yX7_set : Cond) ∈ bw := bw_of (i := 368) (by decide +kernel) rfl
theorem bw_369 : (.code yX7_set cX7_set 3 (some .int) : Cond) ∈ bw := bw_of (i := 369) (by decide +kernel) rfl
theorem bw_370 : (.methodLink RX7 49 yX0_changeSetting : Cond) ∈ bw := bw_of (i := 370) (by decide +kernel) rfl
theorem bw_371 : (.static yX0_changeSetting : Cond) ∈ bw := bw_of (i := 371) (by decide +kernel) rfl
theorem bw_372 : (.code yX0_changeSetting cX0_changeSetting 3 (some .int) : Cond) ∈ bw := bw_of (i := 372) (by decide +kernel) rfl
theorem bw_377 : (.methodLink RL 159 yL_due : Cond) ∈ bw := bw_of (i := 377) (by decide +kernel) rfl
theorem bw_378 : (.static yL_due : Cond) ∈ bw := bw_of (i := 378) (by decide +kernel) rfl
theorem bw_379 : (.code yL_due cL_due 13 (some .int) : Cond) ∈ bw := bw_of (i := 379) (by decide +kernel) rfl
theorem bw_380 : (.methodLink RL 91 yL_shift : Cond) ∈ bw := bw_of (i := 380) (by decide +kernel) rfl
theorem bw_381 : (.static yL_shift : Cond) ∈ bw := bw_of (i := 381) (by decide +kernel) rfl
theorem bw_382 : (.code yL_shift cL_shift 9 (Option.none : Option Jvm.ClassFile.FieldType) : Cond) ∈ bw := bw_of (i := 382) (by decide +kernel) rfl
theorem bw_383 : (.methodLink RL 20 yL_copy : Cond) ∈ bw := bw_of (i := 383) (by decide +kernel) rfl
theorem bw_384 : (.static yL_copy : Cond) ∈ bw := bw_of (i := 384) (by decide +kernel) rfl
theorem bw_385 : (.code yL_copy cL_copy 8 (Option.none : Option Jvm.ClassFile.FieldType) : Cond) ∈ bw := bw_of (i := 385) (by decide +kernel) rfl
theorem bw_386 : (.methodLink RL 24 yL_forget : Cond) ∈ bw := bw_of (i := 386) (by decide +kernel) rfl
theorem bw_387 : (.static yL_forget : Cond) ∈ bw := bw_of (i := 387) (by decide +kernel) rfl
theorem bw_388 : (.code yL_forget cL_forget 3 (Option.none : Option Jvm.ClassFile.FieldType) : Cond) ∈ bw := bw_of (i := 388) (by decide +kernel) rfl
theorem bw_389 : (.methodLink RL 99 yL_ofShot : Cond) ∈ bw := bw_of (i := 389) (by decide +kernel) rfl
theorem bw_390 : (.static yL_ofShot : Cond) ∈ bw := bw_of (i := 390) (by decide +kernel) rfl
theorem bw_391 : (.code yL_ofShot cL_ofShot 13 (some .int) : Cond) ∈ bw := bw_of (i := 391) (by decide +kernel) rfl
theorem bw_392 : (.methodLink RL 16 yL_size : Cond) ∈ bw := bw_of (i := 392) (by decide +kernel) rfl
theorem bw_393 : (.static yL_size : Cond) ∈ bw := bw_of (i := 393) (by decide +kernel) rfl
theorem bw_394 : (.code yL_size cL_size 1 (some .int) : Cond) ∈ bw := bw_of (i := 394) (by decide +kernel) rfl
theorem bw_395 : (.methodLink RL 95 yL_corrects : Cond) ∈ bw := bw_of (i := 395) (by decide +kernel) rfl
theorem bw_396 : (.static yL_corrects : Cond) ∈ bw := bw_of (i := 396) (by decide +kernel) rfl
theorem bw_397 : (.code yL_corrects cL_corrects 9 (some .int) : Cond) ∈ bw := bw_of (i := 397) (by decide +kernel) rfl
theorem bw_398 : (.methodLink RL 103 yL_print : Cond) ∈ bw := bw_of (i := 398) (by decide +kernel) rfl
theorem bw_399 : (.static yL_print : Cond) ∈ bw := bw_of (i := 399) (by decide +kernel) rfl
theorem bw_400 : (.code yL_print cL_print 10 (some .int) : Cond) ∈ bw := bw_of (i := 400) (by decide +kernel) rfl
theorem bw_401 : (.methodLink RL 28 yL_feet : Cond) ∈ bw := bw_of (i := 401) (by decide +kernel) rfl
theorem bw_402 : (.static yL_feet : Cond) ∈ bw := bw_of (i := 402) (by decide +kernel) rfl
theorem bw_403 : (.code yL_feet cL_feet 4 (some .int) : Cond) ∈ bw := bw_of (i := 403) (by decide +kernel) rfl
theorem bw_404 : (.methodLink RL 32 yL_off : Cond) ∈ bw := bw_of (i := 404) (by decide +kernel) rfl
theorem bw_405 : (.static yL_off : Cond) ∈ bw := bw_of (i := 405) (by decide +kernel) rfl
theorem bw_406 : (.code yL_off cL_off 6 (some .int) : Cond) ∈ bw := bw_of (i := 406) (by decide +kernel) rfl
theorem bw_407 : (.methodLink RL 10 yL_prints : Cond) ∈ bw := bw_of (i := 407) (by decide +kernel) rfl
theorem bw_408 : (.static yL_prints : Cond) ∈ bw := bw_of (i := 408) (by decide +kernel) rfl
theorem bw_409 : (.code yL_prints cL_prints 6 (some .int) : Cond) ∈ bw := bw_of (i := 409) (by decide +kernel) rfl
theorem bw_410 : (.methodLink RL 36 yL_isBad : Cond) ∈ bw := bw_of (i := 410) (by decide +kernel) rfl
theorem bw_411 : (.static yL_isBad : Cond) ∈ bw := bw_of (i := 411) (by decide +kernel) rfl
theorem bw_412 : (.code yL_isBad cL_isBad 5 (some .boolean) : Cond) ∈ bw := bw_of (i := 412) (by decide +kernel) rfl
theorem bw_413 : (.methodLink RL 162 yL_isSo : Cond) ∈ bw := bw_of (i := 413) (by decide +kernel) rfl
theorem bw_414 : (.static yL_isSo : Cond) ∈ bw := bw_of (i := 414) (by decide +kernel) rfl
theorem bw_415 : (.code yL_isSo cL_isSo 15 (some .boolean) : Cond) ∈ bw := bw_of (i := 415) (by decide +kernel) rfl
theorem bw_416 : (.methodLink RL 109 yL_jumps : Cond) ∈ bw := bw_of (i := 416) (by decide +kernel) rfl
theorem bw_417 : (.static yL_jumps : Cond) ∈ bw := bw_of (i := 417) (by decide +kernel) rfl
theorem bw_418 : (.code yL_jumps cL_jumps 6 (some .boolean) : Cond) ∈ bw := bw_of (i := 418) (by decide +kernel) rfl
theorem bw_419 : (.methodLink RL 125 yX7_count : Cond) ∈ bw := bw_of (i := 419) (by decide +kernel) rfl
theorem bw_420 : (.instanceMethod yX7_count : Cond) ∈ bw := bw_of (i := 420) (by decide +kernel) rfl
theorem bw_421 : (.selects RX7 yX7_count yX7_count : Cond) ∈ bw := bw_of (i := 421) (by decide +kernel) rfl
theorem bw_422 : (.code yX7_count cX7_count 2 (some .int) : Cond) ∈ bw := bw_of (i := 422) (by decide +kernel) rfl
theorem bw_423 : (.methodLink RX7 140 yX3_shots : Cond) ∈ bw := bw_of (i := 423) (by decide +kernel) rfl
theorem bw_424 : (.methodLink RX7 110 yX5_feetBefore : Cond) ∈ bw := bw_of (i := 424) (by decide +kernel) rfl
theorem bw_425 : (.methodLink RX7 134 yX3_read : Cond) ∈ bw := bw_of (i := 425) (by decide +kernel) rfl
theorem bw_426 : (.methodLink RX7 144 yX5_setOf : Cond) ∈ bw := bw_of (i := 426) (by decide +kernel) rfl
theorem bw_427 : (.static yX5_setOf : Cond) ∈ bw := bw_of (i := 427) (by decide +kernel) rfl
theorem bw_428 : (.code yX5_setOf cX5_setOf 4 (some .int) : Cond) ∈ bw := bw_of (i := 428) (by decide +kernel) rfl
theorem bw_429 : (.methodLink RX5 64 yX3_shots : Cond) ∈ bw := bw_of (i := 429) (by decide +kernel) rfl
theorem bw_430 : (.methodLink RX5 68 yX5_holds : Cond) ∈ bw := bw_of (i := 430) (by decide +kernel) rfl
theorem bw_431 : (.static yX5_holds : Cond) ∈ bw := bw_of (i := 431) (by decide +kernel) rfl
theorem bw_432 : (.code yX5_holds cX5_holds 3 (some .boolean) : Cond) ∈ bw := bw_of (i := 432) (by decide +kernel) rfl
theorem bw_433 : (.methodLink RX5 55 yX5_isBad : Cond) ∈ bw := bw_of (i := 433) (by decide +kernel) rfl
theorem bw_434 : (.methodLink RX5 58 yX5_jumps : Cond) ∈ bw := bw_of (i := 434) (by decide +kernel) rfl
theorem bw_435 : (.static yX5_jumps : Cond) ∈ bw := bw_of (i := 435) (by decide +kernel) rfl
theorem bw_436 : (.code yX5_jumps cX5_jumps 5 (some .boolean) : Cond) ∈ bw := bw_of (i := 436) (by decide +kernel) rfl
theorem bw_437 : (.methodLink RX5 47 yX3_hasShot : Cond) ∈ bw := bw_of (i := 437) (by decide +kernel) rfl
theorem bw_438 : (.methodLink RX5 51 yX5_printsNow : Cond) ∈ bw := bw_of (i := 438) (by decide +kernel) rfl
theorem bw_439 : (.static yX5_printsNow : Cond) ∈ bw := bw_of (i := 439) (by decide +kernel) rfl
theorem bw_440 : (.code yX5_printsNow cX5_printsNow 4 (some .int) : Cond) ∈ bw := bw_of (i := 440) (by decide +kernel) rfl
theorem bw_441 : (.methodLink RX5 61 yX5_isOff : Cond) ∈ bw := bw_of (i := 441) (by decide +kernel) rfl
theorem bw_442 : (.static yX5_isOff : Cond) ∈ bw := bw_of (i := 442) (by decide +kernel) rfl
theorem bw_443 : (.code yX5_isOff cX5_isOff 5 (some .boolean) : Cond) ∈ bw := bw_of (i := 443) (by decide +kernel) rfl
theorem bw_444 : (.methodLink RX5 31 yX5_offWith : Cond) ∈ bw := bw_of (i := 444) (by decide +kernel) rfl
theorem bw_445 : (.methodLink RX7 147 yX2_length : Cond) ∈ bw := bw_of (i := 445) (by decide +kernel) rfl
theorem bw_446 : (.instanceMethod yX2_length : Cond) ∈ bw := bw_of (i := 446) (by decide +kernel) rfl
theorem bw_447 : (.selects RX2 yX2_length yX2_length : Cond) ∈ bw := bw_of (i := 447) (by decide +kernel) rfl
theorem bw_448 : (.code yX2_length cX2_length 1 (some .int) : Cond) ∈ bw := bw_of (i := 448) (by decide +kernel) rfl
theorem bw_449 : (.methodLink RL 128 yX7_ofLamp : Cond) ∈ bw := bw_of (i := 449) (by decide +kernel) rfl
theorem bw_450 : (.instanceMethod yX7_ofLamp : Cond) ∈ bw := bw_of (i := 450) (by decide +kernel) rfl
theorem bw_451 : (.selects RX7 yX7_ofLamp yX7_ofLamp : Cond) ∈ bw := bw_of (i := 451) (by decide +kernel) rfl
theorem bw_452 : (.code yX7_ofLamp cX7_ofLamp 3 (some .int) : Cond) ∈ bw := bw_of (i := 452) (by decide +kernel) rfl
theorem bw_453 : (.methodLink RX7 125 yX7_isColour : Cond) ∈ bw := bw_of (i := 453) (by decide +kernel) rfl
theorem bw_454 : (.methodLink RX7 137 yX3_lampLoss : Cond) ∈ bw := bw_of (i := 454) (by decide +kernel) rfl
theorem bw_455 : (.methodLink RL 106 yX7_of : Cond) ∈ bw := bw_of (i := 455) (by decide +kernel) rfl
theorem bw_456 : (.instanceMethod yX7_of : Cond) ∈ bw := bw_of (i := 456) (by decide +kernel) rfl
theorem bw_457 : (.selects RX7 yX7_of yX7_of : Cond) ∈ bw := bw_of (i := 457) (by decide +kernel) rfl
theorem bw_458 : (.code yX7_of cX7_of 3 (some .int) : Cond) ∈ bw := bw_of (i := 458) (by decide +kernel) rfl
theorem bw_459 : (.methodLink RX7 102 yX3_hasShot : Cond) ∈ bw := bw_of (i := 459) (by decide +kernel) rfl
theorem bw_460 : (.methodLink RX7 106 yX3_readShot : Cond) ∈ bw := bw_of (i := 460) (by decide +kernel) rfl
theorem bw_461 : (.methodLink RX7 115 yX5_isAnswered : Cond) ∈ bw := bw_of (i := 461) (by decide +kernel) rfl
theorem bw_462 : (.methodLink RX7 119 yX5_isBad : Cond) ∈ bw := bw_of (i := 462) (by decide +kernel) rfl
theorem bw_463 : (.methodLink RX7 122 yX5_jumps : Cond) ∈ bw := bw_of (i := 463) (by decide +kernel) rfl
theorem bw_464 : (.methodLink RL 131 yL_isBest : Cond) ∈ bw := bw_of (i := 464) (by decide +kernel) rfl
theorem bw_465 : (.static yL_isBest : Cond) ∈ bw := bw_of (i := 465) (by decide +kernel) rfl
theorem bw_466 : (.code yL_isBest cL_isBest 12 (some .boolean) : Cond) ∈ bw := bw_of (i := 466) (by decide +kernel) rfl
theorem bw_467 : (.methodLink RL 122 yX7_bestTrim : Cond) ∈ bw := bw_of (i := 467) (by decide +kernel) rfl
theorem bw_468 : (.instanceMethod yX7_bestTrim : Cond) ∈ bw := bw_of (i := 468) (by decide +kernel) rfl
theorem bw_469 : (.selects RX7 yX7_bestTrim yX7_bestTrim : Cond) ∈ bw := bw_of (i := 469) (by decide +kernel) rfl
theorem bw_470 : (.code yX7_bestTrim cX7_bestTrim 4 (some .int) : Cond) ∈ bw := bw_of (i := 470) (by decide +kernel) rfl
theorem bw_471 : (.methodLink RX7 172 yX6_leastOffTrim : Cond) ∈ bw := bw_of (i := 471) (by decide +kernel) rfl
theorem bw_472 : (.static yX6_leastOffTrim : Cond) ∈ bw := bw_of (i := 472) (by decide +kernel) rfl
theorem bw_473 : (.code yX6_leastOffTrim cX6_leastOffTrim 7 (some .int) : Cond) ∈ bw := bw_of (i := 473) (by decide +kernel) rfl
theorem bw_474 : (.methodLink RX6 37 yX6_offTogether : Cond) ∈ bw := bw_of (i := 474) (by decide +kernel) rfl
theorem bw_475 : (.static yX6_offTogether : Cond) ∈ bw := bw_of (i := 475) (by decide +kernel) rfl
theorem bw_476 : (.code yX6_offTogether cX6_offTogether 5 (some .int) : Cond) ∈ bw := bw_of (i := 476) (by decide +kernel) rfl
theorem bw_477 : (.methodLink RX6 25 yX3_shots : Cond) ∈ bw := bw_of (i := 477) (by decide +kernel) rfl
theorem bw_478 : (.methodLink RX6 41 yX5_offWith : Cond) ∈ bw := bw_of (i := 478) (by decide +kernel) rfl
theorem bw_479 : (.methodLink RX6 46 Lib.Math.abs.name : Cond) ∈ bw := bw_of (i := 479) (by decide +kernel) rfl
theorem bw_480 : (.methodLink RX7 175 yX6_offTogether : Cond) ∈ bw := bw_of (i := 480) (by decide +kernel) rfl
theorem bw_481 : (.methodLink RL 135 yL_isShot : Cond) ∈ bw := bw_of (i := 481) (by decide +kernel) rfl
theorem bw_482 : (.static yL_isShot : Cond) ∈ bw := bw_of (i := 482) (by decide +kernel) rfl
theorem bw_483 : (.code yL_isShot cL_isShot 13 (some .boolean) : Cond) ∈ bw := bw_of (i := 483) (by decide +kernel) rfl
theorem bw_484 : (.methodLink RL 113 yX7_inColour : Cond) ∈ bw := bw_of (i := 484) (by decide +kernel) rfl
theorem bw_485 : (.instanceMethod yX7_inColour : Cond) ∈ bw := bw_of (i := 485) (by decide +kernel) rfl
theorem bw_486 : (.selects RX7 yX7_inColour yX7_inColour : Cond) ∈ bw := bw_of (i := 486) (by decide +kernel) rfl
theorem bw_487 : (.code yX7_inColour cX7_inColour 4 (some .int) : Cond) ∈ bw := bw_of (i := 487) (by decide +kernel) rfl
theorem bw_488 : (.methodLink RX7 128 yX5_printsNow : Cond) ∈ bw := bw_of (i := 488) (by decide +kernel) rfl
theorem bw_489 : (.methodLink RX7 131 yX5_offNow : Cond) ∈ bw := bw_of (i := 489) (by decide +kernel) rfl
theorem bw_490 : (.static yX5_offNow : Cond) ∈ bw := bw_of (i := 490) (by decide +kernel) rfl
theorem bw_491 : (.code yX5_offNow cX5_offNow 3 (some .int) : Cond) ∈ bw := bw_of (i := 491) (by decide +kernel) rfl
theorem bw_492 : (.methodLink RL 116 yX7_needs : Cond) ∈ bw := bw_of (i := 492) (by decide +kernel) rfl
theorem bw_493 : (.instanceMethod yX7_needs : Cond) ∈ bw := bw_of (i := 493) (by decide +kernel) rfl
theorem bw_494 : (.selects RX7 yX7_needs yX7_needs : Cond) ∈ bw := bw_of (i := 494) (by decide +kernel) rfl
theorem bw_495 : (.code yX7_needs cX7_needs 4 (some .int) : Cond) ∈ bw := bw_of (i := 495) (by decide +kernel) rfl
theorem bw_496 : (.methodLink RX7 153 yX6_lightNeeded : Cond) ∈ bw := bw_of (i := 496) (by decide +kernel) rfl
theorem bw_497 : (.static yX6_lightNeeded : Cond) ∈ bw := bw_of (i := 497) (by decide +kernel) rfl
theorem bw_498 : (.code yX6_lightNeeded cX6_lightNeeded 6 (some .int) : Cond) ∈ bw := bw_of (i := 498) (by decide +kernel) rfl
theorem bw_499 : (.methodLink RX6 11 yX3_readShot : Cond) ∈ bw := bw_of (i := 499) (by decide +kernel) rfl
theorem bw_500 : (.methodLink RX6 15 yX3_read : Cond) ∈ bw := bw_of (i := 500) (by decide +kernel) rfl
theorem bw_501 : (.methodLink RX7 158 yX7_isPoints : Cond) ∈ bw := bw_of (i := 501) (by decide +kernel) rfl
theorem bw_502 : (.methodLink RL 119 yX7_ifLight : Cond) ∈ bw := bw_of (i := 502) (by decide +kernel) rfl
theorem bw_503 : (.instanceMethod yX7_ifLight : Cond) ∈ bw := bw_of (i := 503) (by decide +kernel) rfl
theorem bw_504 : (.selects RX7 yX7_ifLight yX7_ifLight : Cond) ∈ bw := bw_of (i := 504) (by decide +kernel) rfl
theorem bw_505 : (.code yX7_ifLight cX7_ifLight 4 (some .int) : Cond) ∈ bw := bw_of (i := 505) (by decide +kernel) rfl
theorem bw_506 : (.methodLink RX7 161 yX5_printsWith : Cond) ∈ bw := bw_of (i := 506) (by decide +kernel) rfl
theorem bw_507 : (.methodLink RL 148 yL_told : Cond) ∈ bw := bw_of (i := 507) (by decide +kernel) rfl
theorem bw_508 : (.static yL_told : Cond) ∈ bw := bw_of (i := 508) (by decide +kernel) rfl
theorem bw_509 : (.code yL_told cL_told 5 (some .long) : Cond) ∈ bw := bw_of (i := 509) (by decide +kernel) rfl
theorem bw_510 : (.constantLong "TimingLightsLaw" 139 181 : Cond) ∈ bw := bw_of (i := 510) (by decide +kernel) rfl
theorem bw_511 : (.constantLong "TimingLightsLaw" 141 31 : Cond) ∈ bw := bw_of (i := 511) (by decide +kernel) rfl
theorem inb_X1 : ∀ w ∈ wsX10, w ∈ bw := by decide +kernel
theorem inb_X2 : ∀ w ∈ wsX20, w ∈ bw := by decide +kernel
theorem inb_X3 : ∀ w ∈ wsX30, w ∈ bw := by decide +kernel
theorem inb_X4 : ∀ w ∈ wsX40, w ∈ bw := by decide +kernel
theorem inb_X7 : ∀ w ∈ wsX70, w ∈ bw := by decide +kernel
end
section
theorem dX0_changeSetting_0 : decode cX0_changeSetting 0 = .ok (.iload_n 1, 1) := by decide +kernel
theorem dX0_changeSetting_1 : decode cX0_changeSetting 1 = .ok (.iconst 0, 1) := by decide +kernel
theorem dX0_changeSetting_2 : decode cX0_changeSetting 2 = .ok (.iconst 3, 1) := by decide +kernel
theorem dX0_changeSetting_3 : decode cX0_changeSetting 3 = .ok (.invokestatic 9, 3) := by decide +kernel
theorem dX0_changeSetting_6 : decode cX0_changeSetting 6 = .ok (.ifCond .eq 20, 3) := by decide +kernel
theorem dX0_changeSetting_9 : decode cX0_changeSetting 9 = .ok (.iload_n 2, 1) := by decide +kernel
theorem dX0_changeSetting_10 : decode cX0_changeSetting 10 = .ok (.getstatic 13, 3) := by decide +kernel
theorem dX0_changeSetting_13 : decode cX0_changeSetting 13 = .ok (.iload_n 1, 1) := by decide +kernel
theorem dX0_changeSetting_14 : decode cX0_changeSetting 14 = .ok (.iaload, 1) := by decide +kernel
theorem dX0_changeSetting_15 : decode cX0_changeSetting 15 = .ok (.getstatic 17, 3) := by decide +kernel
theorem dX0_changeSetting_18 : decode cX0_changeSetting 18 = .ok (.iload_n 1, 1) := by decide +kernel
theorem dX0_changeSetting_19 : decode cX0_changeSetting 19 = .ok (.iaload, 1) := by decide +kernel
theorem dX0_changeSetting_20 : decode cX0_changeSetting 20 = .ok (.invokestatic 9, 3) := by decide +kernel
theorem dX0_changeSetting_23 : decode cX0_changeSetting 23 = .ok (.ifCond .ne 6, 3) := by decide +kernel
theorem dX0_changeSetting_26 : decode cX0_changeSetting 26 = .ok (.bipush (-2), 2) := by decide +kernel
theorem dX0_changeSetting_28 : decode cX0_changeSetting 28 = .ok (.ireturn, 1) := by decide +kernel
theorem dX0_changeSetting_29 : decode cX0_changeSetting 29 = .ok (.aload_n 0, 1) := by decide +kernel
theorem dX0_changeSetting_30 : decode cX0_changeSetting 30 = .ok (.iconst 0, 1) := by decide +kernel
theorem dX0_changeSetting_31 : decode cX0_changeSetting 31 = .ok (.iload_n 1, 1) := by decide +kernel
theorem dX0_changeSetting_32 : decode cX0_changeSetting 32 = .ok (.iadd, 1) := by decide +kernel
theorem dX0_changeSetting_33 : decode cX0_changeSetting 33 = .ok (.iload_n 2, 1) := by decide +kernel
theorem dX0_changeSetting_34 : decode cX0_changeSetting 34 = .ok (.invokestatic 22, 3) := by decide +kernel
theorem dX0_changeSetting_37 : decode cX0_changeSetting 37 = .ok (.ireturn, 1) := by decide +kernel
theorem dX0_addShot_0 : decode cX0_addShot 0 = .ok (.iload_n 1, 1) := by decide +kernel
theorem dX0_addShot_1 : decode cX0_addShot 1 = .ok (.iconst 0, 1) := by decide +kernel
theorem dX0_addShot_2 : decode cX0_addShot 2 = .ok (.aload_n 0, 1) := by decide +kernel
theorem dX0_addShot_3 : decode cX0_addShot 3 = .ok (.invokevirtual 28, 3) := by decide +kernel
theorem dX0_addShot_6 : decode cX0_addShot 6 = .ok (.invokestatic 9, 3) := by decide +kernel
theorem dX0_addShot_9 : decode cX0_addShot 9 = .ok (.ifCond .ne 5, 3) := by decide +kernel
theorem dX0_addShot_12 : decode cX0_addShot 12 = .ok (.iconst (-1), 1) := by decide +kernel
theorem dX0_addShot_13 : decode cX0_addShot 13 = .ok (.ireturn, 1) := by decide +kernel
theorem dX0_addShot_14 : decode cX0_addShot 14 = .ok (.iload_n 2, 1) := by decide +kernel
theorem dX0_addShot_15 : decode cX0_addShot 15 = .ok (.iconst 1, 1) := by decide +kernel
theorem dX0_addShot_16 : decode cX0_addShot 16 = .ok (.bipush 99, 2) := by decide +kernel
theorem dX0_addShot_18 : decode cX0_addShot 18 = .ok (.invokestatic 9, 3) := by decide +kernel
theorem dX0_addShot_21 : decode cX0_addShot 21 = .ok (.ifCond .eq 26, 3) := by decide +kernel
theorem dX0_addShot_24 : decode cX0_addShot 24 = .ok (.iload_n 3, 1) := by decide +kernel
theorem dX0_addShot_25 : decode cX0_addShot 25 = .ok (.invokestatic 32, 3) := by decide +kernel
theorem dX0_addShot_28 : decode cX0_addShot 28 = .ok (.ifCond .eq 19, 3) := by decide +kernel
theorem dX0_addShot_31 : decode cX0_addShot 31 = .ok (.iload 4, 2) := by decide +kernel
theorem dX0_addShot_33 : decode cX0_addShot 33 = .ok (.invokestatic 32, 3) := by decide +kernel
theorem dX0_addShot_36 : decode cX0_addShot 36 = .ok (.ifCond .eq 11, 3) := by decide +kernel
theorem dX0_addShot_39 : decode cX0_addShot 39 = .ok (.iload 5, 2) := by decide +kernel
theorem dX0_addShot_41 : decode cX0_addShot 41 = .ok (.invokestatic 32, 3) := by decide +kernel
theorem dX0_addShot_44 : decode cX0_addShot 44 = .ok (.ifCond .ne 6, 3) := by decide +kernel
theorem dX0_addShot_47 : decode cX0_addShot 47 = .ok (.bipush (-2), 2) := by decide +kernel
theorem dX0_addShot_49 : decode cX0_addShot 49 = .ok (.ireturn, 1) := by decide +kernel
theorem dX0_addShot_50 : decode cX0_addShot 50 = .ok (.aload_n 0, 1) := by decide +kernel
theorem dX0_addShot_51 : decode cX0_addShot 51 = .ok (.invokevirtual 28, 3) := by decide +kernel
theorem dX0_addShot_54 : decode cX0_addShot 54 = .ok (.bipush 20, 2) := by decide +kernel
theorem dX0_addShot_56 : decode cX0_addShot 56 = .ok (.if_icmp .lt 6, 3) := by decide +kernel
theorem dX0_addShot_59 : decode cX0_addShot 59 = .ok (.bipush (-4), 2) := by decide +kernel
theorem dX0_addShot_61 : decode cX0_addShot 61 = .ok (.ireturn, 1) := by decide +kernel
theorem dX0_addShot_62 : decode cX0_addShot 62 = .ok (.aload_n 0, 1) := by decide +kernel
theorem dX0_addShot_63 : decode cX0_addShot 63 = .ok (.iload_n 1, 1) := by decide +kernel
theorem dX0_addShot_64 : decode cX0_addShot 64 = .ok (.invokevirtual 36, 3) := by decide +kernel
theorem dX0_addShot_67 : decode cX0_addShot 67 = .ok (.aload_n 0, 1) := by decide +kernel
theorem dX0_addShot_68 : decode cX0_addShot 68 = .ok (.iload_n 1, 1) := by decide +kernel
theorem dX0_addShot_69 : decode cX0_addShot 69 = .ok (.iconst 0, 1) := by decide +kernel
theorem dX0_addShot_70 : decode cX0_addShot 70 = .ok (.iload_n 2, 1) := by decide +kernel
theorem dX0_addShot_71 : decode cX0_addShot 71 = .ok (.invokevirtual 40, 3) := by decide +kernel
theorem dX0_addShot_74 : decode cX0_addShot 74 = .ok (.aload_n 0, 1) := by decide +kernel
theorem dX0_addShot_75 : decode cX0_addShot 75 = .ok (.iload_n 1, 1) := by decide +kernel
theorem dX0_addShot_76 : decode cX0_addShot 76 = .ok (.iconst 1, 1) := by decide +kernel
theorem dX0_addShot_77 : decode cX0_addShot 77 = .ok (.iconst 0, 1) := by decide +kernel
theorem dX0_addShot_78 : decode cX0_addShot 78 = .ok (.invokevirtual 40, 3) := by decide +kernel
theorem dX0_addShot_81 : decode cX0_addShot 81 = .ok (.aload_n 0, 1) := by decide +kernel
theorem dX0_addShot_82 : decode cX0_addShot 82 = .ok (.iload_n 1, 1) := by decide +kernel
theorem dX0_addShot_83 : decode cX0_addShot 83 = .ok (.iconst 2, 1) := by decide +kernel
theorem dX0_addShot_84 : decode cX0_addShot 84 = .ok (.iload_n 3, 1) := by decide +kernel
theorem dX0_addShot_85 : decode cX0_addShot 85 = .ok (.invokevirtual 40, 3) := by decide +kernel
theorem dX0_addShot_88 : decode cX0_addShot 88 = .ok (.aload_n 0, 1) := by decide +kernel
theorem dX0_addShot_89 : decode cX0_addShot 89 = .ok (.iload_n 1, 1) := by decide +kernel
theorem dX0_addShot_90 : decode cX0_addShot 90 = .ok (.iconst 3, 1) := by decide +kernel
theorem dX0_addShot_91 : decode cX0_addShot 91 = .ok (.iload 4, 2) := by decide +kernel
theorem dX0_addShot_93 : decode cX0_addShot 93 = .ok (.invokevirtual 40, 3) := by decide +kernel
theorem dX0_addShot_96 : decode cX0_addShot 96 = .ok (.aload_n 0, 1) := by decide +kernel
theorem dX0_addShot_97 : decode cX0_addShot 97 = .ok (.iload_n 1, 1) := by decide +kernel
theorem dX0_addShot_98 : decode cX0_addShot 98 = .ok (.iconst 4, 1) := by decide +kernel
theorem dX0_addShot_99 : decode cX0_addShot 99 = .ok (.iload 5, 2) := by decide +kernel
theorem dX0_addShot_101 : decode cX0_addShot 101 = .ok (.invokevirtual 40, 3) := by decide +kernel
theorem dX0_addShot_104 : decode cX0_addShot 104 = .ok (.iconst 0, 1) := by decide +kernel
theorem dX0_addShot_105 : decode cX0_addShot 105 = .ok (.istore 6, 2) := by decide +kernel
theorem dX0_addShot_107 : decode cX0_addShot 107 = .ok (.iload 6, 2) := by decide +kernel
theorem dX0_addShot_109 : decode cX0_addShot 109 = .ok (.iconst 3, 1) := by decide +kernel
theorem dX0_addShot_110 : decode cX0_addShot 110 = .ok (.if_icmp .ge 31, 3) := by decide +kernel
theorem dX0_addShot_113 : decode cX0_addShot 113 = .ok (.aload_n 0, 1) := by decide +kernel
theorem dX0_addShot_114 : decode cX0_addShot 114 = .ok (.iload_n 1, 1) := by decide +kernel
theorem dX0_addShot_115 : decode cX0_addShot 115 = .ok (.iconst 5, 1) := by decide +kernel
theorem dX0_addShot_116 : decode cX0_addShot 116 = .ok (.iload 6, 2) := by decide +kernel
theorem dX0_addShot_118 : decode cX0_addShot 118 = .ok (.iadd, 1) := by decide +kernel
theorem dX0_addShot_119 : decode cX0_addShot 119 = .ok (.iconst 0, 1) := by decide +kernel
theorem dX0_addShot_120 : decode cX0_addShot 120 = .ok (.invokevirtual 40, 3) := by decide +kernel
theorem dX0_addShot_123 : decode cX0_addShot 123 = .ok (.aload_n 0, 1) := by decide +kernel
theorem dX0_addShot_124 : decode cX0_addShot 124 = .ok (.iload_n 1, 1) := by decide +kernel
theorem dX0_addShot_125 : decode cX0_addShot 125 = .ok (.bipush 8, 2) := by decide +kernel
theorem dX0_addShot_127 : decode cX0_addShot 127 = .ok (.iload 6, 2) := by decide +kernel
theorem dX0_addShot_129 : decode cX0_addShot 129 = .ok (.iadd, 1) := by decide +kernel
theorem dX0_addShot_130 : decode cX0_addShot 130 = .ok (.bipush 25, 2) := by decide +kernel
theorem dX0_addShot_132 : decode cX0_addShot 132 = .ok (.invokevirtual 40, 3) := by decide +kernel
theorem dX0_addShot_135 : decode cX0_addShot 135 = .ok (.iinc 6 1, 3) := by decide +kernel
theorem dX0_addShot_138 : decode cX0_addShot 138 = .ok (.goto (-31), 3) := by decide +kernel
theorem dX0_addShot_141 : decode cX0_addShot 141 = .ok (.aload_n 0, 1) := by decide +kernel
theorem dX0_addShot_142 : decode cX0_addShot 142 = .ok (.invokevirtual 28, 3) := by decide +kernel
theorem dX0_addShot_145 : decode cX0_addShot 145 = .ok (.ireturn, 1) := by decide +kernel
theorem dX0_dropShot_0 : decode cX0_dropShot 0 = .ok (.aload_n 0, 1) := by decide +kernel
theorem dX0_dropShot_1 : decode cX0_dropShot 1 = .ok (.iload_n 1, 1) := by decide +kernel
theorem dX0_dropShot_2 : decode cX0_dropShot 2 = .ok (.invokevirtual 44, 3) := by decide +kernel
theorem dX0_dropShot_5 : decode cX0_dropShot 5 = .ok (.ifCond .ne 5, 3) := by decide +kernel
theorem dX0_dropShot_8 : decode cX0_dropShot 8 = .ok (.iconst (-1), 1) := by decide +kernel
theorem dX0_dropShot_9 : decode cX0_dropShot 9 = .ok (.ireturn, 1) := by decide +kernel
theorem dX0_dropShot_10 : decode cX0_dropShot 10 = .ok (.aload_n 0, 1) := by decide +kernel
theorem dX0_dropShot_11 : decode cX0_dropShot 11 = .ok (.iload_n 1, 1) := by decide +kernel
theorem dX0_dropShot_12 : decode cX0_dropShot 12 = .ok (.invokevirtual 47, 3) := by decide +kernel
theorem dX0_dropShot_15 : decode cX0_dropShot 15 = .ok (.aload_n 0, 1) := by decide +kernel
theorem dX0_dropShot_16 : decode cX0_dropShot 16 = .ok (.invokevirtual 28, 3) := by decide +kernel
theorem dX0_dropShot_19 : decode cX0_dropShot 19 = .ok (.ireturn, 1) := by decide +kernel
theorem dX0_changeLight_0 : decode cX0_changeLight 0 = .ok (.aload_n 0, 1) := by decide +kernel
theorem dX0_changeLight_1 : decode cX0_changeLight 1 = .ok (.iload_n 1, 1) := by decide +kernel
theorem dX0_changeLight_2 : decode cX0_changeLight 2 = .ok (.invokevirtual 44, 3) := by decide +kernel
theorem dX0_changeLight_5 : decode cX0_changeLight 5 = .ok (.ifCond .ne 5, 3) := by decide +kernel
theorem dX0_changeLight_8 : decode cX0_changeLight 8 = .ok (.iconst (-1), 1) := by decide +kernel
theorem dX0_changeLight_9 : decode cX0_changeLight 9 = .ok (.ireturn, 1) := by decide +kernel
theorem dX0_changeLight_10 : decode cX0_changeLight 10 = .ok (.iload_n 2, 1) := by decide +kernel
theorem dX0_changeLight_11 : decode cX0_changeLight 11 = .ok (.invokestatic 50, 3) := by decide +kernel
theorem dX0_changeLight_14 : decode cX0_changeLight 14 = .ok (.ifCond .eq 10, 3) := by decide +kernel
theorem dX0_changeLight_17 : decode cX0_changeLight 17 = .ok (.iload_n 3, 1) := by decide +kernel
theorem dX0_changeLight_18 : decode cX0_changeLight 18 = .ok (.invokestatic 32, 3) := by decide +kernel
theorem dX0_changeLight_21 : decode cX0_changeLight 21 = .ok (.ifCond .ne 6, 3) := by decide +kernel
theorem dX0_changeLight_24 : decode cX0_changeLight 24 = .ok (.bipush (-2), 2) := by decide +kernel
theorem dX0_changeLight_26 : decode cX0_changeLight 26 = .ok (.ireturn, 1) := by decide +kernel
theorem dX0_changeLight_27 : decode cX0_changeLight 27 = .ok (.aload_n 0, 1) := by decide +kernel
theorem dX0_changeLight_28 : decode cX0_changeLight 28 = .ok (.iload_n 1, 1) := by decide +kernel
theorem dX0_changeLight_29 : decode cX0_changeLight 29 = .ok (.bipush 8, 2) := by decide +kernel
theorem dX0_changeLight_31 : decode cX0_changeLight 31 = .ok (.iload_n 2, 1) := by decide +kernel
theorem dX0_changeLight_32 : decode cX0_changeLight 32 = .ok (.iadd, 1) := by decide +kernel
theorem dX0_changeLight_33 : decode cX0_changeLight 33 = .ok (.invokevirtual 53, 3) := by decide +kernel
theorem dX0_changeLight_36 : decode cX0_changeLight 36 = .ok (.istore 4, 2) := by decide +kernel
theorem dX0_changeLight_38 : decode cX0_changeLight 38 = .ok (.aload_n 0, 1) := by decide +kernel
theorem dX0_changeLight_39 : decode cX0_changeLight 39 = .ok (.iload_n 1, 1) := by decide +kernel
theorem dX0_changeLight_40 : decode cX0_changeLight 40 = .ok (.bipush 8, 2) := by decide +kernel
theorem dX0_changeLight_42 : decode cX0_changeLight 42 = .ok (.iload_n 2, 1) := by decide +kernel
theorem dX0_changeLight_43 : decode cX0_changeLight 43 = .ok (.iadd, 1) := by decide +kernel
theorem dX0_changeLight_44 : decode cX0_changeLight 44 = .ok (.iload_n 3, 1) := by decide +kernel
theorem dX0_changeLight_45 : decode cX0_changeLight 45 = .ok (.invokevirtual 40, 3) := by decide +kernel
theorem dX0_changeLight_48 : decode cX0_changeLight 48 = .ok (.iload 4, 2) := by decide +kernel
theorem dX0_changeLight_50 : decode cX0_changeLight 50 = .ok (.ireturn, 1) := by decide +kernel
theorem dX0_changeWish_0 : decode cX0_changeWish 0 = .ok (.aload_n 0, 1) := by decide +kernel
theorem dX0_changeWish_1 : decode cX0_changeWish 1 = .ok (.iload_n 1, 1) := by decide +kernel
theorem dX0_changeWish_2 : decode cX0_changeWish 2 = .ok (.invokevirtual 44, 3) := by decide +kernel
theorem dX0_changeWish_5 : decode cX0_changeWish 5 = .ok (.ifCond .ne 5, 3) := by decide +kernel
theorem dX0_changeWish_8 : decode cX0_changeWish 8 = .ok (.iconst (-1), 1) := by decide +kernel
theorem dX0_changeWish_9 : decode cX0_changeWish 9 = .ok (.ireturn, 1) := by decide +kernel
theorem dX0_changeWish_10 : decode cX0_changeWish 10 = .ok (.iload_n 2, 1) := by decide +kernel
theorem dX0_changeWish_11 : decode cX0_changeWish 11 = .ok (.invokestatic 50, 3) := by decide +kernel
theorem dX0_changeWish_14 : decode cX0_changeWish 14 = .ok (.ifCond .eq 14, 3) := by decide +kernel
theorem dX0_changeWish_17 : decode cX0_changeWish 17 = .ok (.iload_n 3, 1) := by decide +kernel
theorem dX0_changeWish_18 : decode cX0_changeWish 18 = .ok (.bipush (-10), 2) := by decide +kernel
theorem dX0_changeWish_20 : decode cX0_changeWish 20 = .ok (.bipush 10, 2) := by decide +kernel
theorem dX0_changeWish_22 : decode cX0_changeWish 22 = .ok (.invokestatic 9, 3) := by decide +kernel
theorem dX0_changeWish_25 : decode cX0_changeWish 25 = .ok (.ifCond .ne 6, 3) := by decide +kernel
theorem dX0_changeWish_28 : decode cX0_changeWish 28 = .ok (.bipush (-2), 2) := by decide +kernel
theorem dX0_changeWish_30 : decode cX0_changeWish 30 = .ok (.ireturn, 1) := by decide +kernel
theorem dX0_changeWish_31 : decode cX0_changeWish 31 = .ok (.aload_n 0, 1) := by decide +kernel
theorem dX0_changeWish_32 : decode cX0_changeWish 32 = .ok (.iload_n 1, 1) := by decide +kernel
theorem dX0_changeWish_33 : decode cX0_changeWish 33 = .ok (.iconst 5, 1) := by decide +kernel
theorem dX0_changeWish_34 : decode cX0_changeWish 34 = .ok (.iload_n 2, 1) := by decide +kernel
theorem dX0_changeWish_35 : decode cX0_changeWish 35 = .ok (.iadd, 1) := by decide +kernel
theorem dX0_changeWish_36 : decode cX0_changeWish 36 = .ok (.invokevirtual 53, 3) := by decide +kernel
theorem dX0_changeWish_39 : decode cX0_changeWish 39 = .ok (.istore 4, 2) := by decide +kernel
theorem dX0_changeWish_41 : decode cX0_changeWish 41 = .ok (.aload_n 0, 1) := by decide +kernel
theorem dX0_changeWish_42 : decode cX0_changeWish 42 = .ok (.iload_n 1, 1) := by decide +kernel
theorem dX0_changeWish_43 : decode cX0_changeWish 43 = .ok (.iconst 5, 1) := by decide +kernel
theorem dX0_changeWish_44 : decode cX0_changeWish 44 = .ok (.iload_n 2, 1) := by decide +kernel
theorem dX0_changeWish_45 : decode cX0_changeWish 45 = .ok (.iadd, 1) := by decide +kernel
theorem dX0_changeWish_46 : decode cX0_changeWish 46 = .ok (.iload_n 3, 1) := by decide +kernel
theorem dX0_changeWish_47 : decode cX0_changeWish 47 = .ok (.invokevirtual 40, 3) := by decide +kernel
theorem dX0_changeWish_50 : decode cX0_changeWish 50 = .ok (.iload 4, 2) := by decide +kernel
theorem dX0_changeWish_52 : decode cX0_changeWish 52 = .ok (.bipush 10, 2) := by decide +kernel
theorem dX0_changeWish_54 : decode cX0_changeWish 54 = .ok (.iadd, 1) := by decide +kernel
theorem dX0_changeWish_55 : decode cX0_changeWish 55 = .ok (.ireturn, 1) := by decide +kernel
theorem dX0_moveShot_0 : decode cX0_moveShot 0 = .ok (.aload_n 0, 1) := by decide +kernel
theorem dX0_moveShot_1 : decode cX0_moveShot 1 = .ok (.iload_n 1, 1) := by decide +kernel
theorem dX0_moveShot_2 : decode cX0_moveShot 2 = .ok (.invokevirtual 44, 3) := by decide +kernel
theorem dX0_moveShot_5 : decode cX0_moveShot 5 = .ok (.ifCond .eq 11, 3) := by decide +kernel
theorem dX0_moveShot_8 : decode cX0_moveShot 8 = .ok (.aload_n 0, 1) := by decide +kernel
theorem dX0_moveShot_9 : decode cX0_moveShot 9 = .ok (.iload_n 2, 1) := by decide +kernel
theorem dX0_moveShot_10 : decode cX0_moveShot 10 = .ok (.invokevirtual 44, 3) := by decide +kernel
theorem dX0_moveShot_13 : decode cX0_moveShot 13 = .ok (.ifCond .ne 5, 3) := by decide +kernel
theorem dX0_moveShot_16 : decode cX0_moveShot 16 = .ok (.iconst (-1), 1) := by decide +kernel
theorem dX0_moveShot_17 : decode cX0_moveShot 17 = .ok (.ireturn, 1) := by decide +kernel
theorem dX0_moveShot_18 : decode cX0_moveShot 18 = .ok (.iload_n 1, 1) := by decide +kernel
theorem dX0_moveShot_19 : decode cX0_moveShot 19 = .ok (.istore_n 3, 1) := by decide +kernel
theorem dX0_moveShot_20 : decode cX0_moveShot 20 = .ok (.iload_n 3, 1) := by decide +kernel
theorem dX0_moveShot_21 : decode cX0_moveShot 21 = .ok (.iload_n 2, 1) := by decide +kernel
theorem dX0_moveShot_22 : decode cX0_moveShot 22 = .ok (.if_icmp .ge 17, 3) := by decide +kernel
theorem dX0_moveShot_25 : decode cX0_moveShot 25 = .ok (.aload_n 0, 1) := by decide +kernel
theorem dX0_moveShot_26 : decode cX0_moveShot 26 = .ok (.iload_n 3, 1) := by decide +kernel
theorem dX0_moveShot_27 : decode cX0_moveShot 27 = .ok (.iload_n 3, 1) := by decide +kernel
theorem dX0_moveShot_28 : decode cX0_moveShot 28 = .ok (.iconst 1, 1) := by decide +kernel
theorem dX0_moveShot_29 : decode cX0_moveShot 29 = .ok (.iadd, 1) := by decide +kernel
theorem dX0_moveShot_30 : decode cX0_moveShot 30 = .ok (.invokevirtual 57, 3) := by decide +kernel
theorem dX0_moveShot_33 : decode cX0_moveShot 33 = .ok (.iinc 3 1, 3) := by decide +kernel
theorem dX0_moveShot_36 : decode cX0_moveShot 36 = .ok (.goto (-16), 3) := by decide +kernel
theorem dX0_moveShot_39 : decode cX0_moveShot 39 = .ok (.iload_n 1, 1) := by decide +kernel
theorem dX0_moveShot_40 : decode cX0_moveShot 40 = .ok (.istore_n 3, 1) := by decide +kernel
theorem dX0_moveShot_41 : decode cX0_moveShot 41 = .ok (.iload_n 3, 1) := by decide +kernel
theorem dX0_moveShot_42 : decode cX0_moveShot 42 = .ok (.iload_n 2, 1) := by decide +kernel
theorem dX0_moveShot_43 : decode cX0_moveShot 43 = .ok (.if_icmp .le 17, 3) := by decide +kernel
theorem dX0_moveShot_46 : decode cX0_moveShot 46 = .ok (.aload_n 0, 1) := by decide +kernel
theorem dX0_moveShot_47 : decode cX0_moveShot 47 = .ok (.iload_n 3, 1) := by decide +kernel
theorem dX0_moveShot_48 : decode cX0_moveShot 48 = .ok (.iload_n 3, 1) := by decide +kernel
theorem dX0_moveShot_49 : decode cX0_moveShot 49 = .ok (.iconst 1, 1) := by decide +kernel
theorem dX0_moveShot_50 : decode cX0_moveShot 50 = .ok (.isub, 1) := by decide +kernel
theorem dX0_moveShot_51 : decode cX0_moveShot 51 = .ok (.invokevirtual 57, 3) := by decide +kernel
theorem dX0_moveShot_54 : decode cX0_moveShot 54 = .ok (.iinc 3 (-1), 3) := by decide +kernel
theorem dX0_moveShot_57 : decode cX0_moveShot 57 = .ok (.goto (-16), 3) := by decide +kernel
theorem dX0_moveShot_60 : decode cX0_moveShot 60 = .ok (.iload_n 2, 1) := by decide +kernel
theorem dX0_moveShot_61 : decode cX0_moveShot 61 = .ok (.iload_n 1, 1) := by decide +kernel
theorem dX0_moveShot_62 : decode cX0_moveShot 62 = .ok (.isub, 1) := by decide +kernel
theorem dX0_moveShot_63 : decode cX0_moveShot 63 = .ok (.invokestatic 61, 3) := by decide +kernel
theorem dX0_moveShot_66 : decode cX0_moveShot 66 = .ok (.ireturn, 1) := by decide +kernel
theorem dX0_splitShot_0 : decode cX0_splitShot 0 = .ok (.aload_n 0, 1) := by decide +kernel
theorem dX0_splitShot_1 : decode cX0_splitShot 1 = .ok (.iload_n 1, 1) := by decide +kernel
theorem dX0_splitShot_2 : decode cX0_splitShot 2 = .ok (.invokevirtual 44, 3) := by decide +kernel
theorem dX0_splitShot_5 : decode cX0_splitShot 5 = .ok (.ifCond .ne 5, 3) := by decide +kernel
theorem dX0_splitShot_8 : decode cX0_splitShot 8 = .ok (.iconst (-1), 1) := by decide +kernel
theorem dX0_splitShot_9 : decode cX0_splitShot 9 = .ok (.ireturn, 1) := by decide +kernel
theorem dX0_splitShot_10 : decode cX0_splitShot 10 = .ok (.iload_n 2, 1) := by decide +kernel
theorem dX0_splitShot_11 : decode cX0_splitShot 11 = .ok (.iconst 1, 1) := by decide +kernel
theorem dX0_splitShot_12 : decode cX0_splitShot 12 = .ok (.bipush 98, 2) := by decide +kernel
theorem dX0_splitShot_14 : decode cX0_splitShot 14 = .ok (.invokestatic 9, 3) := by decide +kernel
theorem dX0_splitShot_17 : decode cX0_splitShot 17 = .ok (.ifCond .ne 6, 3) := by decide +kernel
theorem dX0_splitShot_20 : decode cX0_splitShot 20 = .ok (.bipush (-2), 2) := by decide +kernel
theorem dX0_splitShot_22 : decode cX0_splitShot 22 = .ok (.ireturn, 1) := by decide +kernel
theorem dX0_splitShot_23 : decode cX0_splitShot 23 = .ok (.aload_n 0, 1) := by decide +kernel
theorem dX0_splitShot_24 : decode cX0_splitShot 24 = .ok (.iload_n 1, 1) := by decide +kernel
theorem dX0_splitShot_25 : decode cX0_splitShot 25 = .ok (.iconst 0, 1) := by decide +kernel
theorem dX0_splitShot_26 : decode cX0_splitShot 26 = .ok (.invokevirtual 53, 3) := by decide +kernel
theorem dX0_splitShot_29 : decode cX0_splitShot 29 = .ok (.iload_n 2, 1) := by decide +kernel
theorem dX0_splitShot_30 : decode cX0_splitShot 30 = .ok (.isub, 1) := by decide +kernel
theorem dX0_splitShot_31 : decode cX0_splitShot 31 = .ok (.istore_n 3, 1) := by decide +kernel
theorem dX0_splitShot_32 : decode cX0_splitShot 32 = .ok (.iload_n 3, 1) := by decide +kernel
theorem dX0_splitShot_33 : decode cX0_splitShot 33 = .ok (.ifCond .gt 6, 3) := by decide +kernel
theorem dX0_splitShot_36 : decode cX0_splitShot 36 = .ok (.bipush (-5), 2) := by decide +kernel
theorem dX0_splitShot_38 : decode cX0_splitShot 38 = .ok (.ireturn, 1) := by decide +kernel
theorem dX0_splitShot_39 : decode cX0_splitShot 39 = .ok (.aload_n 0, 1) := by decide +kernel
theorem dX0_splitShot_40 : decode cX0_splitShot 40 = .ok (.invokevirtual 28, 3) := by decide +kernel
theorem dX0_splitShot_43 : decode cX0_splitShot 43 = .ok (.bipush 20, 2) := by decide +kernel
theorem dX0_splitShot_45 : decode cX0_splitShot 45 = .ok (.if_icmp .lt 6, 3) := by decide +kernel
theorem dX0_splitShot_48 : decode cX0_splitShot 48 = .ok (.bipush (-4), 2) := by decide +kernel
theorem dX0_splitShot_50 : decode cX0_splitShot 50 = .ok (.ireturn, 1) := by decide +kernel
theorem dX0_splitShot_51 : decode cX0_splitShot 51 = .ok (.aload_n 0, 1) := by decide +kernel
theorem dX0_splitShot_52 : decode cX0_splitShot 52 = .ok (.iload_n 1, 1) := by decide +kernel
theorem dX0_splitShot_53 : decode cX0_splitShot 53 = .ok (.invokevirtual 36, 3) := by decide +kernel
theorem dX0_splitShot_56 : decode cX0_splitShot 56 = .ok (.aload_n 0, 1) := by decide +kernel
theorem dX0_splitShot_57 : decode cX0_splitShot 57 = .ok (.iload_n 1, 1) := by decide +kernel
theorem dX0_splitShot_58 : decode cX0_splitShot 58 = .ok (.iconst 0, 1) := by decide +kernel
theorem dX0_splitShot_59 : decode cX0_splitShot 59 = .ok (.iload_n 2, 1) := by decide +kernel
theorem dX0_splitShot_60 : decode cX0_splitShot 60 = .ok (.invokevirtual 40, 3) := by decide +kernel
theorem dX0_splitShot_63 : decode cX0_splitShot 63 = .ok (.aload_n 0, 1) := by decide +kernel
theorem dX0_splitShot_64 : decode cX0_splitShot 64 = .ok (.iload_n 1, 1) := by decide +kernel
theorem dX0_splitShot_65 : decode cX0_splitShot 65 = .ok (.iconst 1, 1) := by decide +kernel
theorem dX0_splitShot_66 : decode cX0_splitShot 66 = .ok (.iconst 0, 1) := by decide +kernel
theorem dX0_splitShot_67 : decode cX0_splitShot 67 = .ok (.invokevirtual 40, 3) := by decide +kernel
theorem dX0_splitShot_70 : decode cX0_splitShot 70 = .ok (.aload_n 0, 1) := by decide +kernel
theorem dX0_splitShot_71 : decode cX0_splitShot 71 = .ok (.iload_n 1, 1) := by decide +kernel
theorem dX0_splitShot_72 : decode cX0_splitShot 72 = .ok (.iconst 1, 1) := by decide +kernel
theorem dX0_splitShot_73 : decode cX0_splitShot 73 = .ok (.iadd, 1) := by decide +kernel
theorem dX0_splitShot_74 : decode cX0_splitShot 74 = .ok (.iconst 0, 1) := by decide +kernel
theorem dX0_splitShot_75 : decode cX0_splitShot 75 = .ok (.iload_n 3, 1) := by decide +kernel
theorem dX0_splitShot_76 : decode cX0_splitShot 76 = .ok (.invokevirtual 40, 3) := by decide +kernel
theorem dX0_splitShot_79 : decode cX0_splitShot 79 = .ok (.aload_n 0, 1) := by decide +kernel
theorem dX0_splitShot_80 : decode cX0_splitShot 80 = .ok (.iload_n 1, 1) := by decide +kernel
theorem dX0_splitShot_81 : decode cX0_splitShot 81 = .ok (.iconst 1, 1) := by decide +kernel
theorem dX0_splitShot_82 : decode cX0_splitShot 82 = .ok (.iadd, 1) := by decide +kernel
theorem dX0_splitShot_83 : decode cX0_splitShot 83 = .ok (.iconst 1, 1) := by decide +kernel
theorem dX0_splitShot_84 : decode cX0_splitShot 84 = .ok (.iconst 0, 1) := by decide +kernel
theorem dX0_splitShot_85 : decode cX0_splitShot 85 = .ok (.invokevirtual 40, 3) := by decide +kernel
theorem dX0_splitShot_88 : decode cX0_splitShot 88 = .ok (.aload_n 0, 1) := by decide +kernel
theorem dX0_splitShot_89 : decode cX0_splitShot 89 = .ok (.invokevirtual 28, 3) := by decide +kernel
theorem dX0_splitShot_92 : decode cX0_splitShot 92 = .ok (.ireturn, 1) := by decide +kernel
theorem dX0_joinShots_0 : decode cX0_joinShots 0 = .ok (.aload_n 0, 1) := by decide +kernel
theorem dX0_joinShots_1 : decode cX0_joinShots 1 = .ok (.iload_n 1, 1) := by decide +kernel
theorem dX0_joinShots_2 : decode cX0_joinShots 2 = .ok (.invokevirtual 44, 3) := by decide +kernel
theorem dX0_joinShots_5 : decode cX0_joinShots 5 = .ok (.ifCond .eq 13, 3) := by decide +kernel
theorem dX0_joinShots_8 : decode cX0_joinShots 8 = .ok (.aload_n 0, 1) := by decide +kernel
theorem dX0_joinShots_9 : decode cX0_joinShots 9 = .ok (.iload_n 1, 1) := by decide +kernel
theorem dX0_joinShots_10 : decode cX0_joinShots 10 = .ok (.iconst 1, 1) := by decide +kernel
theorem dX0_joinShots_11 : decode cX0_joinShots 11 = .ok (.iadd, 1) := by decide +kernel
theorem dX0_joinShots_12 : decode cX0_joinShots 12 = .ok (.invokevirtual 44, 3) := by decide +kernel
theorem dX0_joinShots_15 : decode cX0_joinShots 15 = .ok (.ifCond .ne 5, 3) := by decide +kernel
theorem dX0_joinShots_18 : decode cX0_joinShots 18 = .ok (.iconst (-1), 1) := by decide +kernel
theorem dX0_joinShots_19 : decode cX0_joinShots 19 = .ok (.ireturn, 1) := by decide +kernel
theorem dX0_joinShots_20 : decode cX0_joinShots 20 = .ok (.aload_n 0, 1) := by decide +kernel
theorem dX0_joinShots_21 : decode cX0_joinShots 21 = .ok (.iload_n 1, 1) := by decide +kernel
theorem dX0_joinShots_22 : decode cX0_joinShots 22 = .ok (.iconst 0, 1) := by decide +kernel
theorem dX0_joinShots_23 : decode cX0_joinShots 23 = .ok (.invokevirtual 53, 3) := by decide +kernel
theorem dX0_joinShots_26 : decode cX0_joinShots 26 = .ok (.aload_n 0, 1) := by decide +kernel
theorem dX0_joinShots_27 : decode cX0_joinShots 27 = .ok (.iload_n 1, 1) := by decide +kernel
theorem dX0_joinShots_28 : decode cX0_joinShots 28 = .ok (.iconst 1, 1) := by decide +kernel
theorem dX0_joinShots_29 : decode cX0_joinShots 29 = .ok (.iadd, 1) := by decide +kernel
theorem dX0_joinShots_30 : decode cX0_joinShots 30 = .ok (.iconst 0, 1) := by decide +kernel
theorem dX0_joinShots_31 : decode cX0_joinShots 31 = .ok (.invokevirtual 53, 3) := by decide +kernel
theorem dX0_joinShots_34 : decode cX0_joinShots 34 = .ok (.iadd, 1) := by decide +kernel
theorem dX0_joinShots_35 : decode cX0_joinShots 35 = .ok (.istore_n 2, 1) := by decide +kernel
theorem dX0_joinShots_36 : decode cX0_joinShots 36 = .ok (.iload_n 2, 1) := by decide +kernel
theorem dX0_joinShots_37 : decode cX0_joinShots 37 = .ok (.bipush 99, 2) := by decide +kernel
theorem dX0_joinShots_39 : decode cX0_joinShots 39 = .ok (.if_icmp .gt 14, 3) := by decide +kernel
theorem dX0_joinShots_42 : decode cX0_joinShots 42 = .ok (.aload_n 0, 1) := by decide +kernel
theorem dX0_joinShots_43 : decode cX0_joinShots 43 = .ok (.iload_n 1, 1) := by decide +kernel
theorem dX0_joinShots_44 : decode cX0_joinShots 44 = .ok (.iload_n 1, 1) := by decide +kernel
theorem dX0_joinShots_45 : decode cX0_joinShots 45 = .ok (.iconst 1, 1) := by decide +kernel
theorem dX0_joinShots_46 : decode cX0_joinShots 46 = .ok (.iadd, 1) := by decide +kernel
theorem dX0_joinShots_47 : decode cX0_joinShots 47 = .ok (.invokestatic 67, 3) := by decide +kernel
theorem dX0_joinShots_50 : decode cX0_joinShots 50 = .ok (.ifCond .ne 6, 3) := by decide +kernel
theorem dX0_joinShots_53 : decode cX0_joinShots 53 = .ok (.bipush (-5), 2) := by decide +kernel
theorem dX0_joinShots_55 : decode cX0_joinShots 55 = .ok (.ireturn, 1) := by decide +kernel
theorem dX0_joinShots_56 : decode cX0_joinShots 56 = .ok (.aload_n 0, 1) := by decide +kernel
theorem dX0_joinShots_57 : decode cX0_joinShots 57 = .ok (.iload_n 1, 1) := by decide +kernel
theorem dX0_joinShots_58 : decode cX0_joinShots 58 = .ok (.iconst 1, 1) := by decide +kernel
theorem dX0_joinShots_59 : decode cX0_joinShots 59 = .ok (.iadd, 1) := by decide +kernel
theorem dX0_joinShots_60 : decode cX0_joinShots 60 = .ok (.invokevirtual 47, 3) := by decide +kernel
theorem dX0_joinShots_63 : decode cX0_joinShots 63 = .ok (.aload_n 0, 1) := by decide +kernel
theorem dX0_joinShots_64 : decode cX0_joinShots 64 = .ok (.iload_n 1, 1) := by decide +kernel
theorem dX0_joinShots_65 : decode cX0_joinShots 65 = .ok (.iconst 0, 1) := by decide +kernel
theorem dX0_joinShots_66 : decode cX0_joinShots 66 = .ok (.iload_n 2, 1) := by decide +kernel
theorem dX0_joinShots_67 : decode cX0_joinShots 67 = .ok (.invokevirtual 40, 3) := by decide +kernel
theorem dX0_joinShots_70 : decode cX0_joinShots 70 = .ok (.aload_n 0, 1) := by decide +kernel
theorem dX0_joinShots_71 : decode cX0_joinShots 71 = .ok (.iload_n 1, 1) := by decide +kernel
theorem dX0_joinShots_72 : decode cX0_joinShots 72 = .ok (.iconst 1, 1) := by decide +kernel
theorem dX0_joinShots_73 : decode cX0_joinShots 73 = .ok (.iconst 0, 1) := by decide +kernel
theorem dX0_joinShots_74 : decode cX0_joinShots 74 = .ok (.invokevirtual 40, 3) := by decide +kernel
theorem dX0_joinShots_77 : decode cX0_joinShots 77 = .ok (.iload_n 2, 1) := by decide +kernel
theorem dX0_joinShots_78 : decode cX0_joinShots 78 = .ok (.ireturn, 1) := by decide +kernel
theorem dX0_isSameStock_0 : decode cX0_isSameStock 0 = .ok (.iconst 2, 1) := by decide +kernel
theorem dX0_isSameStock_1 : decode cX0_isSameStock 1 = .ok (.istore_n 3, 1) := by decide +kernel
theorem dX0_isSameStock_2 : decode cX0_isSameStock 2 = .ok (.iload_n 3, 1) := by decide +kernel
theorem dX0_isSameStock_3 : decode cX0_isSameStock 3 = .ok (.iconst 5, 1) := by decide +kernel
theorem dX0_isSameStock_4 : decode cX0_isSameStock 4 = .ok (.if_icmp .ge 26, 3) := by decide +kernel
theorem dX0_isSameStock_7 : decode cX0_isSameStock 7 = .ok (.aload_n 0, 1) := by decide +kernel
theorem dX0_isSameStock_8 : decode cX0_isSameStock 8 = .ok (.iload_n 1, 1) := by decide +kernel
theorem dX0_isSameStock_9 : decode cX0_isSameStock 9 = .ok (.iload_n 3, 1) := by decide +kernel
theorem dX0_isSameStock_10 : decode cX0_isSameStock 10 = .ok (.invokevirtual 53, 3) := by decide +kernel
theorem dX0_isSameStock_13 : decode cX0_isSameStock 13 = .ok (.aload_n 0, 1) := by decide +kernel
theorem dX0_isSameStock_14 : decode cX0_isSameStock 14 = .ok (.iload_n 2, 1) := by decide +kernel
theorem dX0_isSameStock_15 : decode cX0_isSameStock 15 = .ok (.iload_n 3, 1) := by decide +kernel
theorem dX0_isSameStock_16 : decode cX0_isSameStock 16 = .ok (.invokevirtual 53, 3) := by decide +kernel
theorem dX0_isSameStock_19 : decode cX0_isSameStock 19 = .ok (.if_icmp .eq 5, 3) := by decide +kernel
theorem dX0_isSameStock_22 : decode cX0_isSameStock 22 = .ok (.iconst 0, 1) := by decide +kernel
theorem dX0_isSameStock_23 : decode cX0_isSameStock 23 = .ok (.ireturn, 1) := by decide +kernel
theorem dX0_isSameStock_24 : decode cX0_isSameStock 24 = .ok (.iinc 3 1, 3) := by decide +kernel
theorem dX0_isSameStock_27 : decode cX0_isSameStock 27 = .ok (.goto (-25), 3) := by decide +kernel
theorem dX0_isSameStock_30 : decode cX0_isSameStock 30 = .ok (.iconst 1, 1) := by decide +kernel
theorem dX0_isSameStock_31 : decode cX0_isSameStock 31 = .ok (.ireturn, 1) := by decide +kernel
theorem dX0_makePrint_0 : decode cX0_makePrint 0 = .ok (.aload_n 0, 1) := by decide +kernel
theorem dX0_makePrint_1 : decode cX0_makePrint 1 = .ok (.invokestatic 71, 3) := by decide +kernel
theorem dX0_makePrint_4 : decode cX0_makePrint 4 = .ok (.istore_n 1, 1) := by decide +kernel
theorem dX0_makePrint_5 : decode cX0_makePrint 5 = .ok (.iconst 0, 1) := by decide +kernel
theorem dX0_makePrint_6 : decode cX0_makePrint 6 = .ok (.istore_n 2, 1) := by decide +kernel
theorem dX0_makePrint_7 : decode cX0_makePrint 7 = .ok (.iload_n 2, 1) := by decide +kernel
theorem dX0_makePrint_8 : decode cX0_makePrint 8 = .ok (.iconst 3, 1) := by decide +kernel
theorem dX0_makePrint_9 : decode cX0_makePrint 9 = .ok (.if_icmp .ge 27, 3) := by decide +kernel
theorem dX0_makePrint_12 : decode cX0_makePrint 12 = .ok (.aload_n 0, 1) := by decide +kernel
theorem dX0_makePrint_13 : decode cX0_makePrint 13 = .ok (.iconst 4, 1) := by decide +kernel
theorem dX0_makePrint_14 : decode cX0_makePrint 14 = .ok (.iload_n 2, 1) := by decide +kernel
theorem dX0_makePrint_15 : decode cX0_makePrint 15 = .ok (.iadd, 1) := by decide +kernel
theorem dX0_makePrint_16 : decode cX0_makePrint 16 = .ok (.invokevirtual 75, 3) := by decide +kernel
theorem dX0_makePrint_19 : decode cX0_makePrint 19 = .ok (.iload_n 1, 1) := by decide +kernel
theorem dX0_makePrint_20 : decode cX0_makePrint 20 = .ok (.iadd, 1) := by decide +kernel
theorem dX0_makePrint_21 : decode cX0_makePrint 21 = .ok (.sipush 999, 3) := by decide +kernel
theorem dX0_makePrint_24 : decode cX0_makePrint 24 = .ok (.if_icmp .le 6, 3) := by decide +kernel
theorem dX0_makePrint_27 : decode cX0_makePrint 27 = .ok (.bipush (-5), 2) := by decide +kernel
theorem dX0_makePrint_29 : decode cX0_makePrint 29 = .ok (.ireturn, 1) := by decide +kernel
theorem dX0_makePrint_30 : decode cX0_makePrint 30 = .ok (.iinc 2 1, 3) := by decide +kernel
theorem dX0_makePrint_33 : decode cX0_makePrint 33 = .ok (.goto (-26), 3) := by decide +kernel
theorem dX0_makePrint_36 : decode cX0_makePrint 36 = .ok (.aload_n 0, 1) := by decide +kernel
theorem dX0_makePrint_37 : decode cX0_makePrint 37 = .ok (.invokevirtual 28, 3) := by decide +kernel
theorem dX0_makePrint_40 : decode cX0_makePrint 40 = .ok (.ifCond .ne 8, 3) := by decide +kernel
theorem dX0_makePrint_43 : decode cX0_makePrint 43 = .ok (.bipush (-5), 2) := by decide +kernel
theorem dX0_makePrint_45 : decode cX0_makePrint 45 = .ok (.goto 7, 3) := by decide +kernel
theorem dX0_makePrint_48 : decode cX0_makePrint 48 = .ok (.aload_n 0, 1) := by decide +kernel
theorem dX0_makePrint_49 : decode cX0_makePrint 49 = .ok (.invokestatic 78, 3) := by decide +kernel
theorem dX0_makePrint_52 : decode cX0_makePrint 52 = .ok (.ireturn, 1) := by decide +kernel
theorem dX0_runPrinter_0 : decode cX0_runPrinter 0 = .ok (.iconst 0, 1) := by decide +kernel
theorem dX0_runPrinter_1 : decode cX0_runPrinter 1 = .ok (.istore_n 1, 1) := by decide +kernel
theorem dX0_runPrinter_2 : decode cX0_runPrinter 2 = .ok (.iconst 0, 1) := by decide +kernel
theorem dX0_runPrinter_3 : decode cX0_runPrinter 3 = .ok (.istore_n 2, 1) := by decide +kernel
theorem dX0_runPrinter_4 : decode cX0_runPrinter 4 = .ok (.iload_n 2, 1) := by decide +kernel
theorem dX0_runPrinter_5 : decode cX0_runPrinter 5 = .ok (.aload_n 0, 1) := by decide +kernel
theorem dX0_runPrinter_6 : decode cX0_runPrinter 6 = .ok (.invokevirtual 28, 3) := by decide +kernel
theorem dX0_runPrinter_9 : decode cX0_runPrinter 9 = .ok (.if_icmp .ge 78, 3) := by decide +kernel
theorem dX0_runPrinter_12 : decode cX0_runPrinter 12 = .ok (.iload_n 2, 1) := by decide +kernel
theorem dX0_runPrinter_13 : decode cX0_runPrinter 13 = .ok (.bipush 20, 2) := by decide +kernel
theorem dX0_runPrinter_15 : decode cX0_runPrinter 15 = .ok (.if_icmp .ge 72, 3) := by decide +kernel
theorem dX0_runPrinter_18 : decode cX0_runPrinter 18 = .ok (.iconst 0, 1) := by decide +kernel
theorem dX0_runPrinter_19 : decode cX0_runPrinter 19 = .ok (.istore_n 3, 1) := by decide +kernel
theorem dX0_runPrinter_20 : decode cX0_runPrinter 20 = .ok (.iload_n 3, 1) := by decide +kernel
theorem dX0_runPrinter_21 : decode cX0_runPrinter 21 = .ok (.iconst 3, 1) := by decide +kernel
theorem dX0_runPrinter_22 : decode cX0_runPrinter 22 = .ok (.if_icmp .ge 36, 3) := by decide +kernel
theorem dX0_runPrinter_25 : decode cX0_runPrinter 25 = .ok (.aload_n 0, 1) := by decide +kernel
theorem dX0_runPrinter_26 : decode cX0_runPrinter 26 = .ok (.iload_n 2, 1) := by decide +kernel
theorem dX0_runPrinter_27 : decode cX0_runPrinter 27 = .ok (.iload_n 3, 1) := by decide +kernel
theorem dX0_runPrinter_28 : decode cX0_runPrinter 28 = .ok (.aload_n 0, 1) := by decide +kernel
theorem dX0_runPrinter_29 : decode cX0_runPrinter 29 = .ok (.bipush 7, 2) := by decide +kernel
theorem dX0_runPrinter_31 : decode cX0_runPrinter 31 = .ok (.iload_n 3, 1) := by decide +kernel
theorem dX0_runPrinter_32 : decode cX0_runPrinter 32 = .ok (.iadd, 1) := by decide +kernel
theorem dX0_runPrinter_33 : decode cX0_runPrinter 33 = .ok (.invokevirtual 75, 3) := by decide +kernel
theorem dX0_runPrinter_36 : decode cX0_runPrinter 36 = .ok (.invokestatic 81, 3) := by decide +kernel
theorem dX0_runPrinter_39 : decode cX0_runPrinter 39 = .ok (.istore 4, 2) := by decide +kernel
theorem dX0_runPrinter_41 : decode cX0_runPrinter 41 = .ok (.aload_n 0, 1) := by decide +kernel
theorem dX0_runPrinter_42 : decode cX0_runPrinter 42 = .ok (.iload_n 2, 1) := by decide +kernel
theorem dX0_runPrinter_43 : decode cX0_runPrinter 43 = .ok (.bipush 11, 2) := by decide +kernel
theorem dX0_runPrinter_45 : decode cX0_runPrinter 45 = .ok (.iload_n 3, 1) := by decide +kernel
theorem dX0_runPrinter_46 : decode cX0_runPrinter 46 = .ok (.iadd, 1) := by decide +kernel
theorem dX0_runPrinter_47 : decode cX0_runPrinter 47 = .ok (.iload 4, 2) := by decide +kernel
theorem dX0_runPrinter_49 : decode cX0_runPrinter 49 = .ok (.invokevirtual 40, 3) := by decide +kernel
theorem dX0_runPrinter_52 : decode cX0_runPrinter 52 = .ok (.iinc 3 1, 3) := by decide +kernel
theorem dX0_runPrinter_55 : decode cX0_runPrinter 55 = .ok (.goto (-35), 3) := by decide +kernel
theorem dX0_runPrinter_58 : decode cX0_runPrinter 58 = .ok (.aload_n 0, 1) := by decide +kernel
theorem dX0_runPrinter_59 : decode cX0_runPrinter 59 = .ok (.iload_n 2, 1) := by decide +kernel
theorem dX0_runPrinter_60 : decode cX0_runPrinter 60 = .ok (.iconst 1, 1) := by decide +kernel
theorem dX0_runPrinter_61 : decode cX0_runPrinter 61 = .ok (.iconst 1, 1) := by decide +kernel
theorem dX0_runPrinter_62 : decode cX0_runPrinter 62 = .ok (.invokevirtual 40, 3) := by decide +kernel
theorem dX0_runPrinter_65 : decode cX0_runPrinter 65 = .ok (.iload_n 1, 1) := by decide +kernel
theorem dX0_runPrinter_66 : decode cX0_runPrinter 66 = .ok (.aload_n 0, 1) := by decide +kernel
theorem dX0_runPrinter_67 : decode cX0_runPrinter 67 = .ok (.iload_n 2, 1) := by decide +kernel
theorem dX0_runPrinter_68 : decode cX0_runPrinter 68 = .ok (.invokestatic 87, 3) := by decide +kernel
theorem dX0_runPrinter_71 : decode cX0_runPrinter 71 = .ok (.ifCond .eq 7, 3) := by decide +kernel
theorem dX0_runPrinter_74 : decode cX0_runPrinter 74 = .ok (.iconst 1, 1) := by decide +kernel
theorem dX0_runPrinter_75 : decode cX0_runPrinter 75 = .ok (.goto 4, 3) := by decide +kernel
theorem dX0_runPrinter_78 : decode cX0_runPrinter 78 = .ok (.iconst 0, 1) := by decide +kernel
theorem dX0_runPrinter_79 : decode cX0_runPrinter 79 = .ok (.iadd, 1) := by decide +kernel
theorem dX0_runPrinter_80 : decode cX0_runPrinter 80 = .ok (.istore_n 1, 1) := by decide +kernel
theorem dX0_runPrinter_81 : decode cX0_runPrinter 81 = .ok (.iinc 2 1, 3) := by decide +kernel
theorem dX0_runPrinter_84 : decode cX0_runPrinter 84 = .ok (.goto (-80), 3) := by decide +kernel
theorem dX0_runPrinter_87 : decode cX0_runPrinter 87 = .ok (.aload_n 0, 1) := by decide +kernel
theorem dX0_runPrinter_88 : decode cX0_runPrinter 88 = .ok (.invokestatic 71, 3) := by decide +kernel
theorem dX0_runPrinter_91 : decode cX0_runPrinter 91 = .ok (.istore_n 2, 1) := by decide +kernel
theorem dX0_runPrinter_92 : decode cX0_runPrinter 92 = .ok (.iconst 0, 1) := by decide +kernel
theorem dX0_runPrinter_93 : decode cX0_runPrinter 93 = .ok (.istore_n 3, 1) := by decide +kernel
theorem dX0_runPrinter_94 : decode cX0_runPrinter 94 = .ok (.iload_n 3, 1) := by decide +kernel
theorem dX0_runPrinter_95 : decode cX0_runPrinter 95 = .ok (.iconst 3, 1) := by decide +kernel
theorem dX0_runPrinter_96 : decode cX0_runPrinter 96 = .ok (.if_icmp .ge 25, 3) := by decide +kernel
theorem dX0_runPrinter_99 : decode cX0_runPrinter 99 = .ok (.aload_n 0, 1) := by decide +kernel
theorem dX0_runPrinter_100 : decode cX0_runPrinter 100 = .ok (.iconst 4, 1) := by decide +kernel
theorem dX0_runPrinter_101 : decode cX0_runPrinter 101 = .ok (.iload_n 3, 1) := by decide +kernel
theorem dX0_runPrinter_102 : decode cX0_runPrinter 102 = .ok (.iadd, 1) := by decide +kernel
theorem dX0_runPrinter_103 : decode cX0_runPrinter 103 = .ok (.aload_n 0, 1) := by decide +kernel
theorem dX0_runPrinter_104 : decode cX0_runPrinter 104 = .ok (.iconst 4, 1) := by decide +kernel
theorem dX0_runPrinter_105 : decode cX0_runPrinter 105 = .ok (.iload_n 3, 1) := by decide +kernel
theorem dX0_runPrinter_106 : decode cX0_runPrinter 106 = .ok (.iadd, 1) := by decide +kernel
theorem dX0_runPrinter_107 : decode cX0_runPrinter 107 = .ok (.invokevirtual 75, 3) := by decide +kernel
theorem dX0_runPrinter_110 : decode cX0_runPrinter 110 = .ok (.iload_n 2, 1) := by decide +kernel
theorem dX0_runPrinter_111 : decode cX0_runPrinter 111 = .ok (.iadd, 1) := by decide +kernel
theorem dX0_runPrinter_112 : decode cX0_runPrinter 112 = .ok (.invokevirtual 91, 3) := by decide +kernel
theorem dX0_runPrinter_115 : decode cX0_runPrinter 115 = .ok (.iinc 3 1, 3) := by decide +kernel
theorem dX0_runPrinter_118 : decode cX0_runPrinter 118 = .ok (.goto (-24), 3) := by decide +kernel
theorem dX0_runPrinter_121 : decode cX0_runPrinter 121 = .ok (.aload_n 0, 1) := by decide +kernel
theorem dX0_runPrinter_122 : decode cX0_runPrinter 122 = .ok (.bipush 10, 2) := by decide +kernel
theorem dX0_runPrinter_124 : decode cX0_runPrinter 124 = .ok (.aload_n 0, 1) := by decide +kernel
theorem dX0_runPrinter_125 : decode cX0_runPrinter 125 = .ok (.bipush 10, 2) := by decide +kernel
theorem dX0_runPrinter_127 : decode cX0_runPrinter 127 = .ok (.invokevirtual 75, 3) := by decide +kernel
theorem dX0_runPrinter_130 : decode cX0_runPrinter 130 = .ok (.iconst 1, 1) := by decide +kernel
theorem dX0_runPrinter_131 : decode cX0_runPrinter 131 = .ok (.iadd, 1) := by decide +kernel
theorem dX0_runPrinter_132 : decode cX0_runPrinter 132 = .ok (.invokevirtual 91, 3) := by decide +kernel
theorem dX0_runPrinter_135 : decode cX0_runPrinter 135 = .ok (.iload_n 1, 1) := by decide +kernel
theorem dX0_runPrinter_136 : decode cX0_runPrinter 136 = .ok (.ireturn, 1) := by decide +kernel
theorem dX0_hoursOfPrint_0 : decode cX0_hoursOfPrint 0 = .ok (.aload_n 0, 1) := by decide +kernel
theorem dX0_hoursOfPrint_1 : decode cX0_hoursOfPrint 1 = .ok (.aload_n 0, 1) := by decide +kernel
theorem dX0_hoursOfPrint_2 : decode cX0_hoursOfPrint 2 = .ok (.invokevirtual 28, 3) := by decide +kernel
theorem dX0_hoursOfPrint_5 : decode cX0_hoursOfPrint 5 = .ok (.invokestatic 94, 3) := by decide +kernel
theorem dX0_hoursOfPrint_8 : decode cX0_hoursOfPrint 8 = .ok (.bipush 99, 2) := by decide +kernel
theorem dX0_hoursOfPrint_10 : decode cX0_hoursOfPrint 10 = .ok (.iadd, 1) := by decide +kernel
theorem dX0_hoursOfPrint_11 : decode cX0_hoursOfPrint 11 = .ok (.bipush 100, 2) := by decide +kernel
theorem dX0_hoursOfPrint_13 : decode cX0_hoursOfPrint 13 = .ok (.idiv, 1) := by decide +kernel
theorem dX0_hoursOfPrint_14 : decode cX0_hoursOfPrint 14 = .ok (.ireturn, 1) := by decide +kernel
theorem dX0_correctShot_0 : decode cX0_correctShot 0 = .ok (.aload_n 0, 1) := by decide +kernel
theorem dX0_correctShot_1 : decode cX0_correctShot 1 = .ok (.iload_n 1, 1) := by decide +kernel
theorem dX0_correctShot_2 : decode cX0_correctShot 2 = .ok (.invokevirtual 44, 3) := by decide +kernel
theorem dX0_correctShot_5 : decode cX0_correctShot 5 = .ok (.ifCond .ne 5, 3) := by decide +kernel
theorem dX0_correctShot_8 : decode cX0_correctShot 8 = .ok (.iconst (-1), 1) := by decide +kernel
theorem dX0_correctShot_9 : decode cX0_correctShot 9 = .ok (.ireturn, 1) := by decide +kernel
theorem dX0_correctShot_10 : decode cX0_correctShot 10 = .ok (.aload_n 0, 1) := by decide +kernel
theorem dX0_correctShot_11 : decode cX0_correctShot 11 = .ok (.iload_n 1, 1) := by decide +kernel
theorem dX0_correctShot_12 : decode cX0_correctShot 12 = .ok (.invokestatic 98, 3) := by decide +kernel
theorem dX0_correctShot_15 : decode cX0_correctShot 15 = .ok (.ifCond .ne 6, 3) := by decide +kernel
theorem dX0_correctShot_18 : decode cX0_correctShot 18 = .ok (.bipush (-5), 2) := by decide +kernel
theorem dX0_correctShot_20 : decode cX0_correctShot 20 = .ok (.ireturn, 1) := by decide +kernel
theorem dX0_correctShot_21 : decode cX0_correctShot 21 = .ok (.iconst 0, 1) := by decide +kernel
theorem dX0_correctShot_22 : decode cX0_correctShot 22 = .ok (.istore_n 2, 1) := by decide +kernel
theorem dX0_correctShot_23 : decode cX0_correctShot 23 = .ok (.iconst 0, 1) := by decide +kernel
theorem dX0_correctShot_24 : decode cX0_correctShot 24 = .ok (.istore_n 3, 1) := by decide +kernel
theorem dX0_correctShot_25 : decode cX0_correctShot 25 = .ok (.iload_n 3, 1) := by decide +kernel
theorem dX0_correctShot_26 : decode cX0_correctShot 26 = .ok (.iconst 3, 1) := by decide +kernel
theorem dX0_correctShot_27 : decode cX0_correctShot 27 = .ok (.if_icmp .ge 18, 3) := by decide +kernel
theorem dX0_correctShot_30 : decode cX0_correctShot 30 = .ok (.iload_n 2, 1) := by decide +kernel
theorem dX0_correctShot_31 : decode cX0_correctShot 31 = .ok (.aload_n 0, 1) := by decide +kernel
theorem dX0_correctShot_32 : decode cX0_correctShot 32 = .ok (.iload_n 1, 1) := by decide +kernel
theorem dX0_correctShot_33 : decode cX0_correctShot 33 = .ok (.iload_n 3, 1) := by decide +kernel
theorem dX0_correctShot_34 : decode cX0_correctShot 34 = .ok (.invokestatic 101, 3) := by decide +kernel
theorem dX0_correctShot_37 : decode cX0_correctShot 37 = .ok (.iadd, 1) := by decide +kernel
theorem dX0_correctShot_38 : decode cX0_correctShot 38 = .ok (.istore_n 2, 1) := by decide +kernel
theorem dX0_correctShot_39 : decode cX0_correctShot 39 = .ok (.iinc 3 1, 3) := by decide +kernel
theorem dX0_correctShot_42 : decode cX0_correctShot 42 = .ok (.goto (-17), 3) := by decide +kernel
theorem dX0_correctShot_45 : decode cX0_correctShot 45 = .ok (.aload_n 0, 1) := by decide +kernel
theorem dX0_correctShot_46 : decode cX0_correctShot 46 = .ok (.iload_n 1, 1) := by decide +kernel
theorem dX0_correctShot_47 : decode cX0_correctShot 47 = .ok (.iconst 1, 1) := by decide +kernel
theorem dX0_correctShot_48 : decode cX0_correctShot 48 = .ok (.iconst 0, 1) := by decide +kernel
theorem dX0_correctShot_49 : decode cX0_correctShot 49 = .ok (.invokevirtual 40, 3) := by decide +kernel
theorem dX0_correctShot_52 : decode cX0_correctShot 52 = .ok (.aload_n 0, 1) := by decide +kernel
theorem dX0_correctShot_53 : decode cX0_correctShot 53 = .ok (.bipush 11, 2) := by decide +kernel
theorem dX0_correctShot_55 : decode cX0_correctShot 55 = .ok (.aload_n 0, 1) := by decide +kernel
theorem dX0_correctShot_56 : decode cX0_correctShot 56 = .ok (.bipush 11, 2) := by decide +kernel
theorem dX0_correctShot_58 : decode cX0_correctShot 58 = .ok (.invokevirtual 75, 3) := by decide +kernel
theorem dX0_correctShot_61 : decode cX0_correctShot 61 = .ok (.iload_n 2, 1) := by decide +kernel
theorem dX0_correctShot_62 : decode cX0_correctShot 62 = .ok (.iadd, 1) := by decide +kernel
theorem dX0_correctShot_63 : decode cX0_correctShot 63 = .ok (.invokevirtual 91, 3) := by decide +kernel
theorem dX0_correctShot_66 : decode cX0_correctShot 66 = .ok (.iload_n 2, 1) := by decide +kernel
theorem dX0_correctShot_67 : decode cX0_correctShot 67 = .ok (.ireturn, 1) := by decide +kernel
theorem dX0_correctLight_0 : decode cX0_correctLight 0 = .ok (.aload_n 0, 1) := by decide +kernel
theorem dX0_correctLight_1 : decode cX0_correctLight 1 = .ok (.iload_n 1, 1) := by decide +kernel
theorem dX0_correctLight_2 : decode cX0_correctLight 2 = .ok (.bipush 11, 2) := by decide +kernel
theorem dX0_correctLight_4 : decode cX0_correctLight 4 = .ok (.iload_n 2, 1) := by decide +kernel
theorem dX0_correctLight_5 : decode cX0_correctLight 5 = .ok (.iadd, 1) := by decide +kernel
theorem dX0_correctLight_6 : decode cX0_correctLight 6 = .ok (.invokevirtual 53, 3) := by decide +kernel
theorem dX0_correctLight_9 : decode cX0_correctLight 9 = .ok (.istore_n 3, 1) := by decide +kernel
theorem dX0_correctLight_10 : decode cX0_correctLight 10 = .ok (.iconst 1, 1) := by decide +kernel
theorem dX0_correctLight_11 : decode cX0_correctLight 11 = .ok (.aload_n 0, 1) := by decide +kernel
theorem dX0_correctLight_12 : decode cX0_correctLight 12 = .ok (.iconst 0, 1) := by decide +kernel
theorem dX0_correctLight_13 : decode cX0_correctLight 13 = .ok (.invokevirtual 75, 3) := by decide +kernel
theorem dX0_correctLight_16 : decode cX0_correctLight 16 = .ok (.invokestatic 104, 3) := by decide +kernel
theorem dX0_correctLight_19 : decode cX0_correctLight 19 = .ok (.istore 4, 2) := by decide +kernel
theorem dX0_correctLight_21 : decode cX0_correctLight 21 = .ok (.iload_n 3, 1) := by decide +kernel
theorem dX0_correctLight_22 : decode cX0_correctLight 22 = .ok (.iload 4, 2) := by decide +kernel
theorem dX0_correctLight_24 : decode cX0_correctLight 24 = .ok (.idiv, 1) := by decide +kernel
theorem dX0_correctLight_25 : decode cX0_correctLight 25 = .ok (.iload 4, 2) := by decide +kernel
theorem dX0_correctLight_27 : decode cX0_correctLight 27 = .ok (.imul, 1) := by decide +kernel
theorem dX0_correctLight_28 : decode cX0_correctLight 28 = .ok (.istore 5, 2) := by decide +kernel
theorem dX0_correctLight_30 : decode cX0_correctLight 30 = .ok (.aload_n 0, 1) := by decide +kernel
theorem dX0_correctLight_31 : decode cX0_correctLight 31 = .ok (.iload_n 1, 1) := by decide +kernel
theorem dX0_correctLight_32 : decode cX0_correctLight 32 = .ok (.bipush 8, 2) := by decide +kernel
theorem dX0_correctLight_34 : decode cX0_correctLight 34 = .ok (.iload_n 2, 1) := by decide +kernel
theorem dX0_correctLight_35 : decode cX0_correctLight 35 = .ok (.iadd, 1) := by decide +kernel
theorem dX0_correctLight_36 : decode cX0_correctLight 36 = .ok (.invokevirtual 53, 3) := by decide +kernel
theorem dX0_correctLight_39 : decode cX0_correctLight 39 = .ok (.istore 6, 2) := by decide +kernel
theorem dX0_correctLight_41 : decode cX0_correctLight 41 = .ok (.iload 6, 2) := by decide +kernel
theorem dX0_correctLight_43 : decode cX0_correctLight 43 = .ok (.iload 5, 2) := by decide +kernel
theorem dX0_correctLight_45 : decode cX0_correctLight 45 = .ok (.isub, 1) := by decide +kernel
theorem dX0_correctLight_46 : decode cX0_correctLight 46 = .ok (.invokestatic 107, 3) := by decide +kernel
theorem dX0_correctLight_49 : decode cX0_correctLight 49 = .ok (.istore 7, 2) := by decide +kernel
theorem dX0_correctLight_51 : decode cX0_correctLight 51 = .ok (.aload_n 0, 1) := by decide +kernel
theorem dX0_correctLight_52 : decode cX0_correctLight 52 = .ok (.iload_n 1, 1) := by decide +kernel
theorem dX0_correctLight_53 : decode cX0_correctLight 53 = .ok (.bipush 8, 2) := by decide +kernel
theorem dX0_correctLight_55 : decode cX0_correctLight 55 = .ok (.iload_n 2, 1) := by decide +kernel
theorem dX0_correctLight_56 : decode cX0_correctLight 56 = .ok (.iadd, 1) := by decide +kernel
theorem dX0_correctLight_57 : decode cX0_correctLight 57 = .ok (.iload 7, 2) := by decide +kernel
theorem dX0_correctLight_59 : decode cX0_correctLight 59 = .ok (.invokevirtual 40, 3) := by decide +kernel
theorem dX0_correctLight_62 : decode cX0_correctLight 62 = .ok (.iload 7, 2) := by decide +kernel
theorem dX0_correctLight_64 : decode cX0_correctLight 64 = .ok (.iload 6, 2) := by decide +kernel
theorem dX0_correctLight_66 : decode cX0_correctLight 66 = .ok (.isub, 1) := by decide +kernel
theorem dX0_correctLight_67 : decode cX0_correctLight 67 = .ok (.invokestatic 61, 3) := by decide +kernel
theorem dX0_correctLight_70 : decode cX0_correctLight 70 = .ok (.ireturn, 1) := by decide +kernel
theorem dX0_correctBadShots_0 : decode cX0_correctBadShots 0 = .ok (.iconst 0, 1) := by decide +kernel
theorem dX0_correctBadShots_1 : decode cX0_correctBadShots 1 = .ok (.istore_n 1, 1) := by decide +kernel
theorem dX0_correctBadShots_2 : decode cX0_correctBadShots 2 = .ok (.iconst 0, 1) := by decide +kernel
theorem dX0_correctBadShots_3 : decode cX0_correctBadShots 3 = .ok (.istore_n 2, 1) := by decide +kernel
theorem dX0_correctBadShots_4 : decode cX0_correctBadShots 4 = .ok (.iload_n 2, 1) := by decide +kernel
theorem dX0_correctBadShots_5 : decode cX0_correctBadShots 5 = .ok (.aload_n 0, 1) := by decide +kernel
theorem dX0_correctBadShots_6 : decode cX0_correctBadShots 6 = .ok (.invokevirtual 28, 3) := by decide +kernel
theorem dX0_correctBadShots_9 : decode cX0_correctBadShots 9 = .ok (.if_icmp .ge 32, 3) := by decide +kernel
theorem dX0_correctBadShots_12 : decode cX0_correctBadShots 12 = .ok (.iload_n 2, 1) := by decide +kernel
theorem dX0_correctBadShots_13 : decode cX0_correctBadShots 13 = .ok (.bipush 20, 2) := by decide +kernel
theorem dX0_correctBadShots_15 : decode cX0_correctBadShots 15 = .ok (.if_icmp .ge 26, 3) := by decide +kernel
theorem dX0_correctBadShots_18 : decode cX0_correctBadShots 18 = .ok (.aload_n 0, 1) := by decide +kernel
theorem dX0_correctBadShots_19 : decode cX0_correctBadShots 19 = .ok (.iload_n 2, 1) := by decide +kernel
theorem dX0_correctBadShots_20 : decode cX0_correctBadShots 20 = .ok (.invokestatic 87, 3) := by decide +kernel
theorem dX0_correctBadShots_23 : decode cX0_correctBadShots 23 = .ok (.ifCond .eq 12, 3) := by decide +kernel
theorem dX0_correctBadShots_26 : decode cX0_correctBadShots 26 = .ok (.aload_n 0, 1) := by decide +kernel
theorem dX0_correctBadShots_27 : decode cX0_correctBadShots 27 = .ok (.iload_n 2, 1) := by decide +kernel
theorem dX0_correctBadShots_28 : decode cX0_correctBadShots 28 = .ok (.invokestatic 110, 3) := by decide +kernel
theorem dX0_correctBadShots_31 : decode cX0_correctBadShots 31 = .ok (.pop, 1) := by decide +kernel
theorem dX0_correctBadShots_32 : decode cX0_correctBadShots 32 = .ok (.iinc 1 1, 3) := by decide +kernel
theorem dX0_correctBadShots_35 : decode cX0_correctBadShots 35 = .ok (.iinc 2 1, 3) := by decide +kernel
theorem dX0_correctBadShots_38 : decode cX0_correctBadShots 38 = .ok (.goto (-34), 3) := by decide +kernel
theorem dX0_correctBadShots_41 : decode cX0_correctBadShots 41 = .ok (.iload_n 1, 1) := by decide +kernel
theorem dX0_correctBadShots_42 : decode cX0_correctBadShots 42 = .ok (.ireturn, 1) := by decide +kernel
theorem dX0_setByCard_0 : decode cX0_setByCard 0 = .ok (.iconst 0, 1) := by decide +kernel
theorem dX0_setByCard_1 : decode cX0_setByCard 1 = .ok (.istore_n 1, 1) := by decide +kernel
theorem dX0_setByCard_2 : decode cX0_setByCard 2 = .ok (.iconst 0, 1) := by decide +kernel
theorem dX0_setByCard_3 : decode cX0_setByCard 3 = .ok (.istore_n 2, 1) := by decide +kernel
theorem dX0_setByCard_4 : decode cX0_setByCard 4 = .ok (.iload_n 2, 1) := by decide +kernel
theorem dX0_setByCard_5 : decode cX0_setByCard 5 = .ok (.iconst 3, 1) := by decide +kernel
theorem dX0_setByCard_6 : decode cX0_setByCard 6 = .ok (.if_icmp .ge 33, 3) := by decide +kernel
theorem dX0_setByCard_9 : decode cX0_setByCard 9 = .ok (.bipush 20, 2) := by decide +kernel
theorem dX0_setByCard_11 : decode cX0_setByCard 11 = .ok (.aload_n 0, 1) := by decide +kernel
theorem dX0_setByCard_12 : decode cX0_setByCard 12 = .ok (.iload_n 2, 1) := by decide +kernel
theorem dX0_setByCard_13 : decode cX0_setByCard 13 = .ok (.invokevirtual 113, 3) := by decide +kernel
theorem dX0_setByCard_16 : decode cX0_setByCard 16 = .ok (.invokestatic 116, 3) := by decide +kernel
theorem dX0_setByCard_19 : decode cX0_setByCard 19 = .ok (.istore_n 3, 1) := by decide +kernel
theorem dX0_setByCard_20 : decode cX0_setByCard 20 = .ok (.aload_n 0, 1) := by decide +kernel
theorem dX0_setByCard_21 : decode cX0_setByCard 21 = .ok (.bipush 7, 2) := by decide +kernel
theorem dX0_setByCard_23 : decode cX0_setByCard 23 = .ok (.iload_n 2, 1) := by decide +kernel
theorem dX0_setByCard_24 : decode cX0_setByCard 24 = .ok (.iadd, 1) := by decide +kernel
theorem dX0_setByCard_25 : decode cX0_setByCard 25 = .ok (.iload_n 3, 1) := by decide +kernel
theorem dX0_setByCard_26 : decode cX0_setByCard 26 = .ok (.invokevirtual 91, 3) := by decide +kernel
theorem dX0_setByCard_29 : decode cX0_setByCard 29 = .ok (.iload_n 1, 1) := by decide +kernel
theorem dX0_setByCard_30 : decode cX0_setByCard 30 = .ok (.iload_n 3, 1) := by decide +kernel
theorem dX0_setByCard_31 : decode cX0_setByCard 31 = .ok (.iadd, 1) := by decide +kernel
theorem dX0_setByCard_32 : decode cX0_setByCard 32 = .ok (.istore_n 1, 1) := by decide +kernel
theorem dX0_setByCard_33 : decode cX0_setByCard 33 = .ok (.iinc 2 1, 3) := by decide +kernel
theorem dX0_setByCard_36 : decode cX0_setByCard 36 = .ok (.goto (-32), 3) := by decide +kernel
theorem dX0_setByCard_39 : decode cX0_setByCard 39 = .ok (.iload_n 1, 1) := by decide +kernel
theorem dX0_setByCard_40 : decode cX0_setByCard 40 = .ok (.ireturn, 1) := by decide +kernel
theorem dX0_changeTrim_0 : decode cX0_changeTrim 0 = .ok (.iload_n 1, 1) := by decide +kernel
theorem dX0_changeTrim_1 : decode cX0_changeTrim 1 = .ok (.invokestatic 50, 3) := by decide +kernel
theorem dX0_changeTrim_4 : decode cX0_changeTrim 4 = .ok (.ifCond .eq 14, 3) := by decide +kernel
theorem dX0_changeTrim_7 : decode cX0_changeTrim 7 = .ok (.iload_n 2, 1) := by decide +kernel
theorem dX0_changeTrim_8 : decode cX0_changeTrim 8 = .ok (.bipush (-20), 2) := by decide +kernel
theorem dX0_changeTrim_10 : decode cX0_changeTrim 10 = .ok (.bipush 20, 2) := by decide +kernel
theorem dX0_changeTrim_12 : decode cX0_changeTrim 12 = .ok (.invokestatic 9, 3) := by decide +kernel
theorem dX0_changeTrim_15 : decode cX0_changeTrim 15 = .ok (.ifCond .ne 6, 3) := by decide +kernel
theorem dX0_changeTrim_18 : decode cX0_changeTrim 18 = .ok (.bipush (-2), 2) := by decide +kernel
theorem dX0_changeTrim_20 : decode cX0_changeTrim 20 = .ok (.ireturn, 1) := by decide +kernel
theorem dX0_changeTrim_21 : decode cX0_changeTrim 21 = .ok (.aload_n 0, 1) := by decide +kernel
theorem dX0_changeTrim_22 : decode cX0_changeTrim 22 = .ok (.bipush 7, 2) := by decide +kernel
theorem dX0_changeTrim_24 : decode cX0_changeTrim 24 = .ok (.iload_n 1, 1) := by decide +kernel
theorem dX0_changeTrim_25 : decode cX0_changeTrim 25 = .ok (.iadd, 1) := by decide +kernel
theorem dX0_changeTrim_26 : decode cX0_changeTrim 26 = .ok (.iload_n 2, 1) := by decide +kernel
theorem dX0_changeTrim_27 : decode cX0_changeTrim 27 = .ok (.invokestatic 22, 3) := by decide +kernel
theorem dX0_changeTrim_30 : decode cX0_changeTrim 30 = .ok (.bipush 20, 2) := by decide +kernel
theorem dX0_changeTrim_32 : decode cX0_changeTrim 32 = .ok (.iadd, 1) := by decide +kernel
theorem dX0_changeTrim_33 : decode cX0_changeTrim 33 = .ok (.ireturn, 1) := by decide +kernel
theorem dX0_changeLamp_0 : decode cX0_changeLamp 0 = .ok (.iload_n 1, 1) := by decide +kernel
theorem dX0_changeLamp_1 : decode cX0_changeLamp 1 = .ok (.invokestatic 50, 3) := by decide +kernel
theorem dX0_changeLamp_4 : decode cX0_changeLamp 4 = .ok (.ifCond .eq 14, 3) := by decide +kernel
theorem dX0_changeLamp_7 : decode cX0_changeLamp 7 = .ok (.aload_n 0, 1) := by decide +kernel
theorem dX0_changeLamp_8 : decode cX0_changeLamp 8 = .ok (.iconst 4, 1) := by decide +kernel
theorem dX0_changeLamp_9 : decode cX0_changeLamp 9 = .ok (.iload_n 1, 1) := by decide +kernel
theorem dX0_changeLamp_10 : decode cX0_changeLamp 10 = .ok (.iadd, 1) := by decide +kernel
theorem dX0_changeLamp_11 : decode cX0_changeLamp 11 = .ok (.iconst 0, 1) := by decide +kernel
theorem dX0_changeLamp_12 : decode cX0_changeLamp 12 = .ok (.invokestatic 22, 3) := by decide +kernel
theorem dX0_changeLamp_15 : decode cX0_changeLamp 15 = .ok (.goto 5, 3) := by decide +kernel
theorem dX0_changeLamp_18 : decode cX0_changeLamp 18 = .ok (.bipush (-2), 2) := by decide +kernel
theorem dX0_changeLamp_20 : decode cX0_changeLamp 20 = .ok (.ireturn, 1) := by decide +kernel
theorem dX0_exchange_0 : decode cX0_exchange 0 = .ok (.aload_n 0, 1) := by decide +kernel
theorem dX0_exchange_1 : decode cX0_exchange 1 = .ok (.iload_n 1, 1) := by decide +kernel
theorem dX0_exchange_2 : decode cX0_exchange 2 = .ok (.invokevirtual 75, 3) := by decide +kernel
theorem dX0_exchange_5 : decode cX0_exchange 5 = .ok (.istore_n 3, 1) := by decide +kernel
theorem dX0_exchange_6 : decode cX0_exchange 6 = .ok (.aload_n 0, 1) := by decide +kernel
theorem dX0_exchange_7 : decode cX0_exchange 7 = .ok (.iload_n 1, 1) := by decide +kernel
theorem dX0_exchange_8 : decode cX0_exchange 8 = .ok (.iload_n 2, 1) := by decide +kernel
theorem dX0_exchange_9 : decode cX0_exchange 9 = .ok (.invokevirtual 91, 3) := by decide +kernel
theorem dX0_exchange_12 : decode cX0_exchange 12 = .ok (.iload_n 3, 1) := by decide +kernel
theorem dX0_exchange_13 : decode cX0_exchange 13 = .ok (.ireturn, 1) := by decide +kernel
theorem dX1_init_0 : decode cX1_init 0 = .ok (.aload_n 0, 1) := by decide +kernel
theorem dX1_init_1 : decode cX1_init 1 = .ok (.invokespecial 1, 3) := by decide +kernel
theorem dX1_init_4 : decode cX1_init 4 = .ok (.aload_n 0, 1) := by decide +kernel
theorem dX1_init_5 : decode cX1_init 5 = .ok (.new 7, 3) := by decide +kernel
theorem dX1_init_8 : decode cX1_init 8 = .ok (.dup, 1) := by decide +kernel
theorem dX1_init_9 : decode cX1_init 9 = .ok (.bipush 6, 2) := by decide +kernel
theorem dX1_init_11 : decode cX1_init 11 = .ok (.invokespecial 11, 3) := by decide +kernel
theorem dX1_init_14 : decode cX1_init 14 = .ok (.putfield 14, 3) := by decide +kernel
theorem dX1_init_17 : decode cX1_init 17 = .ok (.return_, 1) := by decide +kernel
theorem dX1_size_0 : decode cX1_size 0 = .ok (.aload_n 0, 1) := by decide +kernel
theorem dX1_size_1 : decode cX1_size 1 = .ok (.getfield 18, 3) := by decide +kernel
theorem dX1_size_4 : decode cX1_size 4 = .ok (.ireturn, 1) := by decide +kernel
theorem dX1_record_0 : decode cX1_record 0 = .ok (.aload_n 0, 1) := by decide +kernel
theorem dX1_record_1 : decode cX1_record 1 = .ok (.getfield 14, 3) := by decide +kernel
theorem dX1_record_4 : decode cX1_record 4 = .ok (.aload_n 0, 1) := by decide +kernel
theorem dX1_record_5 : decode cX1_record 5 = .ok (.getfield 22, 3) := by decide +kernel
theorem dX1_record_8 : decode cX1_record 8 = .ok (.aload_n 0, 1) := by decide +kernel
theorem dX1_record_9 : decode cX1_record 9 = .ok (.getfield 18, 3) := by decide +kernel
theorem dX1_record_12 : decode cX1_record 12 = .ok (.iadd, 1) := by decide +kernel
theorem dX1_record_13 : decode cX1_record 13 = .ok (.bipush 6, 2) := by decide +kernel
theorem dX1_record_15 : decode cX1_record 15 = .ok (.irem, 1) := by decide +kernel
theorem dX1_record_16 : decode cX1_record 16 = .ok (.aload_n 1, 1) := by decide +kernel
theorem dX1_record_17 : decode cX1_record 17 = .ok (.invokevirtual 25, 3) := by decide +kernel
theorem dX1_record_20 : decode cX1_record 20 = .ok (.aload_n 0, 1) := by decide +kernel
theorem dX1_record_21 : decode cX1_record 21 = .ok (.getfield 18, 3) := by decide +kernel
theorem dX1_record_24 : decode cX1_record 24 = .ok (.bipush 6, 2) := by decide +kernel
theorem dX1_record_26 : decode cX1_record 26 = .ok (.if_icmp .ge 16, 3) := by decide +kernel
theorem dX1_record_29 : decode cX1_record 29 = .ok (.aload_n 0, 1) := by decide +kernel
theorem dX1_record_30 : decode cX1_record 30 = .ok (.dup, 1) := by decide +kernel
theorem dX1_record_31 : decode cX1_record 31 = .ok (.getfield 18, 3) := by decide +kernel
theorem dX1_record_34 : decode cX1_record 34 = .ok (.iconst 1, 1) := by decide +kernel
theorem dX1_record_35 : decode cX1_record 35 = .ok (.iadd, 1) := by decide +kernel
theorem dX1_record_36 : decode cX1_record 36 = .ok (.putfield 18, 3) := by decide +kernel
theorem dX1_record_39 : decode cX1_record 39 = .ok (.goto 16, 3) := by decide +kernel
theorem dX1_record_42 : decode cX1_record 42 = .ok (.aload_n 0, 1) := by decide +kernel
theorem dX1_record_43 : decode cX1_record 43 = .ok (.aload_n 0, 1) := by decide +kernel
theorem dX1_record_44 : decode cX1_record 44 = .ok (.getfield 22, 3) := by decide +kernel
theorem dX1_record_47 : decode cX1_record 47 = .ok (.iconst 1, 1) := by decide +kernel
theorem dX1_record_48 : decode cX1_record 48 = .ok (.iadd, 1) := by decide +kernel
theorem dX1_record_49 : decode cX1_record 49 = .ok (.bipush 6, 2) := by decide +kernel
theorem dX1_record_51 : decode cX1_record 51 = .ok (.irem, 1) := by decide +kernel
theorem dX1_record_52 : decode cX1_record 52 = .ok (.putfield 22, 3) := by decide +kernel
theorem dX1_record_55 : decode cX1_record 55 = .ok (.return_, 1) := by decide +kernel
theorem dX1_takeBack_0 : decode cX1_takeBack 0 = .ok (.aload_n 0, 1) := by decide +kernel
theorem dX1_takeBack_1 : decode cX1_takeBack 1 = .ok (.getfield 18, 3) := by decide +kernel
theorem dX1_takeBack_4 : decode cX1_takeBack 4 = .ok (.ifCond .le 33, 3) := by decide +kernel
theorem dX1_takeBack_7 : decode cX1_takeBack 7 = .ok (.aload_n 0, 1) := by decide +kernel
theorem dX1_takeBack_8 : decode cX1_takeBack 8 = .ok (.dup, 1) := by decide +kernel
theorem dX1_takeBack_9 : decode cX1_takeBack 9 = .ok (.getfield 18, 3) := by decide +kernel
theorem dX1_takeBack_12 : decode cX1_takeBack 12 = .ok (.iconst 1, 1) := by decide +kernel
theorem dX1_takeBack_13 : decode cX1_takeBack 13 = .ok (.isub, 1) := by decide +kernel
theorem dX1_takeBack_14 : decode cX1_takeBack 14 = .ok (.putfield 18, 3) := by decide +kernel
theorem dX1_takeBack_17 : decode cX1_takeBack 17 = .ok (.aload_n 0, 1) := by decide +kernel
theorem dX1_takeBack_18 : decode cX1_takeBack 18 = .ok (.getfield 14, 3) := by decide +kernel
theorem dX1_takeBack_21 : decode cX1_takeBack 21 = .ok (.aload_n 0, 1) := by decide +kernel
theorem dX1_takeBack_22 : decode cX1_takeBack 22 = .ok (.getfield 22, 3) := by decide +kernel
theorem dX1_takeBack_25 : decode cX1_takeBack 25 = .ok (.aload_n 0, 1) := by decide +kernel
theorem dX1_takeBack_26 : decode cX1_takeBack 26 = .ok (.getfield 18, 3) := by decide +kernel
theorem dX1_takeBack_29 : decode cX1_takeBack 29 = .ok (.iadd, 1) := by decide +kernel
theorem dX1_takeBack_30 : decode cX1_takeBack 30 = .ok (.bipush 6, 2) := by decide +kernel
theorem dX1_takeBack_32 : decode cX1_takeBack 32 = .ok (.irem, 1) := by decide +kernel
theorem dX1_takeBack_33 : decode cX1_takeBack 33 = .ok (.aload_n 1, 1) := by decide +kernel
theorem dX1_takeBack_34 : decode cX1_takeBack 34 = .ok (.invokevirtual 29, 3) := by decide +kernel
theorem dX1_takeBack_37 : decode cX1_takeBack 37 = .ok (.return_, 1) := by decide +kernel
theorem dX2_init_0 : decode cX2_init 0 = .ok (.aload_n 0, 1) := by decide +kernel
theorem dX2_init_1 : decode cX2_init 1 = .ok (.invokespecial 3, 3) := by decide +kernel
theorem dX2_init_4 : decode cX2_init 4 = .ok (.aload_n 0, 1) := by decide +kernel
theorem dX2_init_5 : decode cX2_init 5 = .ok (.bipush 80, 2) := by decide +kernel
theorem dX2_init_7 : decode cX2_init 7 = .ok (.newarray .char, 2) := by decide +kernel
theorem dX2_init_9 : decode cX2_init 9 = .ok (.putfield 11, 3) := by decide +kernel
theorem dX2_init_12 : decode cX2_init 12 = .ok (.aload_n 0, 1) := by decide +kernel
theorem dX2_init_13 : decode cX2_init 13 = .ok (.iconst 4, 1) := by decide +kernel
theorem dX2_init_14 : decode cX2_init 14 = .ok (.newarray .int, 2) := by decide +kernel
theorem dX2_init_16 : decode cX2_init 16 = .ok (.putfield 15, 3) := by decide +kernel
theorem dX2_init_19 : decode cX2_init 19 = .ok (.return_, 1) := by decide +kernel
theorem dX2_length_0 : decode cX2_length 0 = .ok (.aload_n 0, 1) := by decide +kernel
theorem dX2_length_1 : decode cX2_length 1 = .ok (.getfield 19, 3) := by decide +kernel
theorem dX2_length_4 : decode cX2_length 4 = .ok (.ireturn, 1) := by decide +kernel
theorem dX3_init_0 : decode cX3_init 0 = .ok (.aload_n 0, 1) := by decide +kernel
theorem dX3_init_1 : decode cX3_init 1 = .ok (.invokespecial 5, 3) := by decide +kernel
theorem dX3_init_4 : decode cX3_init 4 = .ok (.aload_n 0, 1) := by decide +kernel
theorem dX3_init_5 : decode cX3_init 5 = .ok (.sipush 293, 3) := by decide +kernel
theorem dX3_init_8 : decode cX3_init 8 = .ok (.newarray .int, 2) := by decide +kernel
theorem dX3_init_10 : decode cX3_init 10 = .ok (.putfield 11, 3) := by decide +kernel
theorem dX3_init_13 : decode cX3_init 13 = .ok (.getstatic 15, 3) := by decide +kernel
theorem dX3_init_16 : decode cX3_init 16 = .ok (.iconst 0, 1) := by decide +kernel
theorem dX3_init_17 : decode cX3_init 17 = .ok (.aload_n 0, 1) := by decide +kernel
theorem dX3_init_18 : decode cX3_init 18 = .ok (.getfield 11, 3) := by decide +kernel
theorem dX3_init_21 : decode cX3_init 21 = .ok (.iconst 0, 1) := by decide +kernel
theorem dX3_init_22 : decode cX3_init 22 = .ok (.iconst 4, 1) := by decide +kernel
theorem dX3_init_23 : decode cX3_init 23 = .ok (.invokestatic 18, 3) := by decide +kernel
theorem dX3_init_26 : decode cX3_init 26 = .ok (.return_, 1) := by decide +kernel
theorem dX3_read_0 : decode cX3_read 0 = .ok (.iload_n 1, 1) := by decide +kernel
theorem dX3_read_1 : decode cX3_read 1 = .ok (.ifCond .lt 21, 3) := by decide +kernel
theorem dX3_read_4 : decode cX3_read 4 = .ok (.iload_n 1, 1) := by decide +kernel
theorem dX3_read_5 : decode cX3_read 5 = .ok (.aload_n 0, 1) := by decide +kernel
theorem dX3_read_6 : decode cX3_read 6 = .ok (.getfield 11, 3) := by decide +kernel
theorem dX3_read_9 : decode cX3_read 9 = .ok (.arraylength, 1) := by decide +kernel
theorem dX3_read_10 : decode cX3_read 10 = .ok (.if_icmp .ge 12, 3) := by decide +kernel
theorem dX3_read_13 : decode cX3_read 13 = .ok (.aload_n 0, 1) := by decide +kernel
theorem dX3_read_14 : decode cX3_read 14 = .ok (.getfield 11, 3) := by decide +kernel
theorem dX3_read_17 : decode cX3_read 17 = .ok (.iload_n 1, 1) := by decide +kernel
theorem dX3_read_18 : decode cX3_read 18 = .ok (.iaload, 1) := by decide +kernel
theorem dX3_read_19 : decode cX3_read 19 = .ok (.goto 4, 3) := by decide +kernel
theorem dX3_read_22 : decode cX3_read 22 = .ok (.iconst 0, 1) := by decide +kernel
theorem dX3_read_23 : decode cX3_read 23 = .ok (.ireturn, 1) := by decide +kernel
theorem dX3_write_0 : decode cX3_write 0 = .ok (.iload_n 1, 1) := by decide +kernel
theorem dX3_write_1 : decode cX3_write 1 = .ok (.ifCond .lt 19, 3) := by decide +kernel
theorem dX3_write_4 : decode cX3_write 4 = .ok (.iload_n 1, 1) := by decide +kernel
theorem dX3_write_5 : decode cX3_write 5 = .ok (.aload_n 0, 1) := by decide +kernel
theorem dX3_write_6 : decode cX3_write 6 = .ok (.getfield 11, 3) := by decide +kernel
theorem dX3_write_9 : decode cX3_write 9 = .ok (.arraylength, 1) := by decide +kernel
theorem dX3_write_10 : decode cX3_write 10 = .ok (.if_icmp .ge 10, 3) := by decide +kernel
theorem dX3_write_13 : decode cX3_write 13 = .ok (.aload_n 0, 1) := by decide +kernel
theorem dX3_write_14 : decode cX3_write 14 = .ok (.getfield 11, 3) := by decide +kernel
theorem dX3_write_17 : decode cX3_write 17 = .ok (.iload_n 1, 1) := by decide +kernel
theorem dX3_write_18 : decode cX3_write 18 = .ok (.iload_n 2, 1) := by decide +kernel
theorem dX3_write_19 : decode cX3_write 19 = .ok (.iastore, 1) := by decide +kernel
theorem dX3_write_20 : decode cX3_write 20 = .ok (.return_, 1) := by decide +kernel
theorem dX3_readShot_0 : decode cX3_readShot 0 = .ok (.bipush 13, 2) := by decide +kernel
theorem dX3_readShot_2 : decode cX3_readShot 2 = .ok (.iload_n 1, 1) := by decide +kernel
theorem dX3_readShot_3 : decode cX3_readShot 3 = .ok (.bipush 14, 2) := by decide +kernel
theorem dX3_readShot_5 : decode cX3_readShot 5 = .ok (.imul, 1) := by decide +kernel
theorem dX3_readShot_6 : decode cX3_readShot 6 = .ok (.iadd, 1) := by decide +kernel
theorem dX3_readShot_7 : decode cX3_readShot 7 = .ok (.iload_n 2, 1) := by decide +kernel
theorem dX3_readShot_8 : decode cX3_readShot 8 = .ok (.iadd, 1) := by decide +kernel
theorem dX3_readShot_9 : decode cX3_readShot 9 = .ok (.istore_n 3, 1) := by decide +kernel
theorem dX3_readShot_10 : decode cX3_readShot 10 = .ok (.iload_n 3, 1) := by decide +kernel
theorem dX3_readShot_11 : decode cX3_readShot 11 = .ok (.ifCond .lt 21, 3) := by decide +kernel
theorem dX3_readShot_14 : decode cX3_readShot 14 = .ok (.iload_n 3, 1) := by decide +kernel
theorem dX3_readShot_15 : decode cX3_readShot 15 = .ok (.aload_n 0, 1) := by decide +kernel
theorem dX3_readShot_16 : decode cX3_readShot 16 = .ok (.getfield 11, 3) := by decide +kernel
theorem dX3_readShot_19 : decode cX3_readShot 19 = .ok (.arraylength, 1) := by decide +kernel
theorem dX3_readShot_20 : decode cX3_readShot 20 = .ok (.if_icmp .ge 12, 3) := by decide +kernel
theorem dX3_readShot_23 : decode cX3_readShot 23 = .ok (.aload_n 0, 1) := by decide +kernel
theorem dX3_readShot_24 : decode cX3_readShot 24 = .ok (.getfield 11, 3) := by decide +kernel
theorem dX3_readShot_27 : decode cX3_readShot 27 = .ok (.iload_n 3, 1) := by decide +kernel
theorem dX3_readShot_28 : decode cX3_readShot 28 = .ok (.iaload, 1) := by decide +kernel
theorem dX3_readShot_29 : decode cX3_readShot 29 = .ok (.goto 4, 3) := by decide +kernel
theorem dX3_readShot_32 : decode cX3_readShot 32 = .ok (.iconst 0, 1) := by decide +kernel
theorem dX3_readShot_33 : decode cX3_readShot 33 = .ok (.ireturn, 1) := by decide +kernel
theorem dX3_writeShot_0 : decode cX3_writeShot 0 = .ok (.bipush 13, 2) := by decide +kernel
theorem dX3_writeShot_2 : decode cX3_writeShot 2 = .ok (.iload_n 1, 1) := by decide +kernel
theorem dX3_writeShot_3 : decode cX3_writeShot 3 = .ok (.bipush 14, 2) := by decide +kernel
theorem dX3_writeShot_5 : decode cX3_writeShot 5 = .ok (.imul, 1) := by decide +kernel
theorem dX3_writeShot_6 : decode cX3_writeShot 6 = .ok (.iadd, 1) := by decide +kernel
theorem dX3_writeShot_7 : decode cX3_writeShot 7 = .ok (.iload_n 2, 1) := by decide +kernel
theorem dX3_writeShot_8 : decode cX3_writeShot 8 = .ok (.iadd, 1) := by decide +kernel
theorem dX3_writeShot_9 : decode cX3_writeShot 9 = .ok (.istore 4, 2) := by decide +kernel
theorem dX3_writeShot_11 : decode cX3_writeShot 11 = .ok (.iload 4, 2) := by decide +kernel
theorem dX3_writeShot_13 : decode cX3_writeShot 13 = .ok (.ifCond .lt 21, 3) := by decide +kernel
theorem dX3_writeShot_16 : decode cX3_writeShot 16 = .ok (.iload 4, 2) := by decide +kernel
theorem dX3_writeShot_18 : decode cX3_writeShot 18 = .ok (.aload_n 0, 1) := by decide +kernel
theorem dX3_writeShot_19 : decode cX3_writeShot 19 = .ok (.getfield 11, 3) := by decide +kernel
theorem dX3_writeShot_22 : decode cX3_writeShot 22 = .ok (.arraylength, 1) := by decide +kernel
theorem dX3_writeShot_23 : decode cX3_writeShot 23 = .ok (.if_icmp .ge 11, 3) := by decide +kernel
theorem dX3_writeShot_26 : decode cX3_writeShot 26 = .ok (.aload_n 0, 1) := by decide +kernel
theorem dX3_writeShot_27 : decode cX3_writeShot 27 = .ok (.getfield 11, 3) := by decide +kernel
theorem dX3_writeShot_30 : decode cX3_writeShot 30 = .ok (.iload 4, 2) := by decide +kernel
theorem dX3_writeShot_32 : decode cX3_writeShot 32 = .ok (.iload_n 3, 1) := by decide +kernel
theorem dX3_writeShot_33 : decode cX3_writeShot 33 = .ok (.iastore, 1) := by decide +kernel
theorem dX3_writeShot_34 : decode cX3_writeShot 34 = .ok (.return_, 1) := by decide +kernel
theorem dX3_lampLoss_0 : decode cX3_lampLoss 0 = .ok (.iload_n 1, 1) := by decide +kernel
theorem dX3_lampLoss_1 : decode cX3_lampLoss 1 = .ok (.ifCond .lt 29, 3) := by decide +kernel
theorem dX3_lampLoss_4 : decode cX3_lampLoss 4 = .ok (.iload_n 1, 1) := by decide +kernel
theorem dX3_lampLoss_5 : decode cX3_lampLoss 5 = .ok (.iconst 3, 1) := by decide +kernel
theorem dX3_lampLoss_6 : decode cX3_lampLoss 6 = .ok (.if_icmp .ge 24, 3) := by decide +kernel
theorem dX3_lampLoss_9 : decode cX3_lampLoss 9 = .ok (.aload_n 0, 1) := by decide +kernel
theorem dX3_lampLoss_10 : decode cX3_lampLoss 10 = .ok (.getfield 11, 3) := by decide +kernel
theorem dX3_lampLoss_13 : decode cX3_lampLoss 13 = .ok (.iconst 4, 1) := by decide +kernel
theorem dX3_lampLoss_14 : decode cX3_lampLoss 14 = .ok (.iload_n 1, 1) := by decide +kernel
theorem dX3_lampLoss_15 : decode cX3_lampLoss 15 = .ok (.iadd, 1) := by decide +kernel
theorem dX3_lampLoss_16 : decode cX3_lampLoss 16 = .ok (.iaload, 1) := by decide +kernel
theorem dX3_lampLoss_17 : decode cX3_lampLoss 17 = .ok (.aload_n 0, 1) := by decide +kernel
theorem dX3_lampLoss_18 : decode cX3_lampLoss 18 = .ok (.getfield 11, 3) := by decide +kernel
theorem dX3_lampLoss_21 : decode cX3_lampLoss 21 = .ok (.iconst 3, 1) := by decide +kernel
theorem dX3_lampLoss_22 : decode cX3_lampLoss 22 = .ok (.iaload, 1) := by decide +kernel
theorem dX3_lampLoss_23 : decode cX3_lampLoss 23 = .ok (.imul, 1) := by decide +kernel
theorem dX3_lampLoss_24 : decode cX3_lampLoss 24 = .ok (.bipush 100, 2) := by decide +kernel
theorem dX3_lampLoss_26 : decode cX3_lampLoss 26 = .ok (.idiv, 1) := by decide +kernel
theorem dX3_lampLoss_27 : decode cX3_lampLoss 27 = .ok (.goto 4, 3) := by decide +kernel
theorem dX3_lampLoss_30 : decode cX3_lampLoss 30 = .ok (.iconst 0, 1) := by decide +kernel
theorem dX3_lampLoss_31 : decode cX3_lampLoss 31 = .ok (.ireturn, 1) := by decide +kernel
theorem dX3_shots_0 : decode cX3_shots 0 = .ok (.aload_n 0, 1) := by decide +kernel
theorem dX3_shots_1 : decode cX3_shots 1 = .ok (.bipush 12, 2) := by decide +kernel
theorem dX3_shots_3 : decode cX3_shots 3 = .ok (.invokevirtual 24, 3) := by decide +kernel
theorem dX3_shots_6 : decode cX3_shots 6 = .ok (.ireturn, 1) := by decide +kernel
theorem dX3_hasShot_0 : decode cX3_hasShot 0 = .ok (.iload_n 1, 1) := by decide +kernel
theorem dX3_hasShot_1 : decode cX3_hasShot 1 = .ok (.ifCond .lt 15, 3) := by decide +kernel
theorem dX3_hasShot_4 : decode cX3_hasShot 4 = .ok (.iload_n 1, 1) := by decide +kernel
theorem dX3_hasShot_5 : decode cX3_hasShot 5 = .ok (.aload_n 0, 1) := by decide +kernel
theorem dX3_hasShot_6 : decode cX3_hasShot 6 = .ok (.invokevirtual 28, 3) := by decide +kernel
theorem dX3_hasShot_9 : decode cX3_hasShot 9 = .ok (.if_icmp .ge 7, 3) := by decide +kernel
theorem dX3_hasShot_12 : decode cX3_hasShot 12 = .ok (.iconst 1, 1) := by decide +kernel
theorem dX3_hasShot_13 : decode cX3_hasShot 13 = .ok (.goto 4, 3) := by decide +kernel
theorem dX3_hasShot_16 : decode cX3_hasShot 16 = .ok (.iconst 0, 1) := by decide +kernel
theorem dX3_hasShot_17 : decode cX3_hasShot 17 = .ok (.ireturn, 1) := by decide +kernel
theorem dX3_openPlace_0 : decode cX3_openPlace 0 = .ok (.aload_n 0, 1) := by decide +kernel
theorem dX3_openPlace_1 : decode cX3_openPlace 1 = .ok (.invokevirtual 28, 3) := by decide +kernel
theorem dX3_openPlace_4 : decode cX3_openPlace 4 = .ok (.bipush 19, 2) := by decide +kernel
theorem dX3_openPlace_6 : decode cX3_openPlace 6 = .ok (.invokestatic 32, 3) := by decide +kernel
theorem dX3_openPlace_9 : decode cX3_openPlace 9 = .ok (.istore_n 2, 1) := by decide +kernel
theorem dX3_openPlace_10 : decode cX3_openPlace 10 = .ok (.iload_n 2, 1) := by decide +kernel
theorem dX3_openPlace_11 : decode cX3_openPlace 11 = .ok (.iload_n 1, 1) := by decide +kernel
theorem dX3_openPlace_12 : decode cX3_openPlace 12 = .ok (.if_icmp .le 17, 3) := by decide +kernel
theorem dX3_openPlace_15 : decode cX3_openPlace 15 = .ok (.aload_n 0, 1) := by decide +kernel
theorem dX3_openPlace_16 : decode cX3_openPlace 16 = .ok (.iload_n 2, 1) := by decide +kernel
theorem dX3_openPlace_17 : decode cX3_openPlace 17 = .ok (.iconst 1, 1) := by decide +kernel
theorem dX3_openPlace_18 : decode cX3_openPlace 18 = .ok (.isub, 1) := by decide +kernel
theorem dX3_openPlace_19 : decode cX3_openPlace 19 = .ok (.iload_n 2, 1) := by decide +kernel
theorem dX3_openPlace_20 : decode cX3_openPlace 20 = .ok (.invokevirtual 38, 3) := by decide +kernel
theorem dX3_openPlace_23 : decode cX3_openPlace 23 = .ok (.iinc 2 (-1), 3) := by decide +kernel
theorem dX3_openPlace_26 : decode cX3_openPlace 26 = .ok (.goto (-16), 3) := by decide +kernel
theorem dX3_openPlace_29 : decode cX3_openPlace 29 = .ok (.aload_n 0, 1) := by decide +kernel
theorem dX3_openPlace_30 : decode cX3_openPlace 30 = .ok (.bipush 12, 2) := by decide +kernel
theorem dX3_openPlace_32 : decode cX3_openPlace 32 = .ok (.aload_n 0, 1) := by decide +kernel
theorem dX3_openPlace_33 : decode cX3_openPlace 33 = .ok (.invokevirtual 28, 3) := by decide +kernel
theorem dX3_openPlace_36 : decode cX3_openPlace 36 = .ok (.iconst 1, 1) := by decide +kernel
theorem dX3_openPlace_37 : decode cX3_openPlace 37 = .ok (.iadd, 1) := by decide +kernel
theorem dX3_openPlace_38 : decode cX3_openPlace 38 = .ok (.invokevirtual 42, 3) := by decide +kernel
theorem dX3_openPlace_41 : decode cX3_openPlace 41 = .ok (.return_, 1) := by decide +kernel
theorem dX3_closePlace_0 : decode cX3_closePlace 0 = .ok (.iload_n 1, 1) := by decide +kernel
theorem dX3_closePlace_1 : decode cX3_closePlace 1 = .ok (.istore_n 2, 1) := by decide +kernel
theorem dX3_closePlace_2 : decode cX3_closePlace 2 = .ok (.iload_n 2, 1) := by decide +kernel
theorem dX3_closePlace_3 : decode cX3_closePlace 3 = .ok (.aload_n 0, 1) := by decide +kernel
theorem dX3_closePlace_4 : decode cX3_closePlace 4 = .ok (.invokevirtual 28, 3) := by decide +kernel
theorem dX3_closePlace_7 : decode cX3_closePlace 7 = .ok (.iconst 1, 1) := by decide +kernel
theorem dX3_closePlace_8 : decode cX3_closePlace 8 = .ok (.isub, 1) := by decide +kernel
theorem dX3_closePlace_9 : decode cX3_closePlace 9 = .ok (.if_icmp .ge 17, 3) := by decide +kernel
theorem dX3_closePlace_12 : decode cX3_closePlace 12 = .ok (.aload_n 0, 1) := by decide +kernel
theorem dX3_closePlace_13 : decode cX3_closePlace 13 = .ok (.iload_n 2, 1) := by decide +kernel
theorem dX3_closePlace_14 : decode cX3_closePlace 14 = .ok (.iconst 1, 1) := by decide +kernel
theorem dX3_closePlace_15 : decode cX3_closePlace 15 = .ok (.iadd, 1) := by decide +kernel
theorem dX3_closePlace_16 : decode cX3_closePlace 16 = .ok (.iload_n 2, 1) := by decide +kernel
theorem dX3_closePlace_17 : decode cX3_closePlace 17 = .ok (.invokevirtual 38, 3) := by decide +kernel
theorem dX3_closePlace_20 : decode cX3_closePlace 20 = .ok (.iinc 2 1, 3) := by decide +kernel
theorem dX3_closePlace_23 : decode cX3_closePlace 23 = .ok (.goto (-21), 3) := by decide +kernel
theorem dX3_closePlace_26 : decode cX3_closePlace 26 = .ok (.aload_n 0, 1) := by decide +kernel
theorem dX3_closePlace_27 : decode cX3_closePlace 27 = .ok (.bipush 12, 2) := by decide +kernel
theorem dX3_closePlace_29 : decode cX3_closePlace 29 = .ok (.aload_n 0, 1) := by decide +kernel
theorem dX3_closePlace_30 : decode cX3_closePlace 30 = .ok (.invokevirtual 28, 3) := by decide +kernel
theorem dX3_closePlace_33 : decode cX3_closePlace 33 = .ok (.iconst 1, 1) := by decide +kernel
theorem dX3_closePlace_34 : decode cX3_closePlace 34 = .ok (.isub, 1) := by decide +kernel
theorem dX3_closePlace_35 : decode cX3_closePlace 35 = .ok (.invokevirtual 42, 3) := by decide +kernel
theorem dX3_closePlace_38 : decode cX3_closePlace 38 = .ok (.return_, 1) := by decide +kernel
theorem dX3_copyShot_0 : decode cX3_copyShot 0 = .ok (.iconst 0, 1) := by decide +kernel
theorem dX3_copyShot_1 : decode cX3_copyShot 1 = .ok (.istore_n 3, 1) := by decide +kernel
theorem dX3_copyShot_2 : decode cX3_copyShot 2 = .ok (.iload_n 3, 1) := by decide +kernel
theorem dX3_copyShot_3 : decode cX3_copyShot 3 = .ok (.bipush 14, 2) := by decide +kernel
theorem dX3_copyShot_5 : decode cX3_copyShot 5 = .ok (.if_icmp .ge 21, 3) := by decide +kernel
theorem dX3_copyShot_8 : decode cX3_copyShot 8 = .ok (.aload_n 0, 1) := by decide +kernel
theorem dX3_copyShot_9 : decode cX3_copyShot 9 = .ok (.iload_n 2, 1) := by decide +kernel
theorem dX3_copyShot_10 : decode cX3_copyShot 10 = .ok (.iload_n 3, 1) := by decide +kernel
theorem dX3_copyShot_11 : decode cX3_copyShot 11 = .ok (.aload_n 0, 1) := by decide +kernel
theorem dX3_copyShot_12 : decode cX3_copyShot 12 = .ok (.iload_n 1, 1) := by decide +kernel
theorem dX3_copyShot_13 : decode cX3_copyShot 13 = .ok (.iload_n 3, 1) := by decide +kernel
theorem dX3_copyShot_14 : decode cX3_copyShot 14 = .ok (.invokevirtual 45, 3) := by decide +kernel
theorem dX3_copyShot_17 : decode cX3_copyShot 17 = .ok (.invokevirtual 48, 3) := by decide +kernel
theorem dX3_copyShot_20 : decode cX3_copyShot 20 = .ok (.iinc 3 1, 3) := by decide +kernel
theorem dX3_copyShot_23 : decode cX3_copyShot 23 = .ok (.goto (-21), 3) := by decide +kernel
theorem dX3_copyShot_26 : decode cX3_copyShot 26 = .ok (.return_, 1) := by decide +kernel
theorem dX3_swapShots_0 : decode cX3_swapShots 0 = .ok (.iconst 0, 1) := by decide +kernel
theorem dX3_swapShots_1 : decode cX3_swapShots 1 = .ok (.istore_n 3, 1) := by decide +kernel
theorem dX3_swapShots_2 : decode cX3_swapShots 2 = .ok (.iload_n 3, 1) := by decide +kernel
theorem dX3_swapShots_3 : decode cX3_swapShots 3 = .ok (.bipush 14, 2) := by decide +kernel
theorem dX3_swapShots_5 : decode cX3_swapShots 5 = .ok (.if_icmp .ge 37, 3) := by decide +kernel
theorem dX3_swapShots_8 : decode cX3_swapShots 8 = .ok (.aload_n 0, 1) := by decide +kernel
theorem dX3_swapShots_9 : decode cX3_swapShots 9 = .ok (.iload_n 1, 1) := by decide +kernel
theorem dX3_swapShots_10 : decode cX3_swapShots 10 = .ok (.iload_n 3, 1) := by decide +kernel
theorem dX3_swapShots_11 : decode cX3_swapShots 11 = .ok (.invokevirtual 45, 3) := by decide +kernel
theorem dX3_swapShots_14 : decode cX3_swapShots 14 = .ok (.istore 4, 2) := by decide +kernel
theorem dX3_swapShots_16 : decode cX3_swapShots 16 = .ok (.aload_n 0, 1) := by decide +kernel
theorem dX3_swapShots_17 : decode cX3_swapShots 17 = .ok (.iload_n 1, 1) := by decide +kernel
theorem dX3_swapShots_18 : decode cX3_swapShots 18 = .ok (.iload_n 3, 1) := by decide +kernel
theorem dX3_swapShots_19 : decode cX3_swapShots 19 = .ok (.aload_n 0, 1) := by decide +kernel
theorem dX3_swapShots_20 : decode cX3_swapShots 20 = .ok (.iload_n 2, 1) := by decide +kernel
theorem dX3_swapShots_21 : decode cX3_swapShots 21 = .ok (.iload_n 3, 1) := by decide +kernel
theorem dX3_swapShots_22 : decode cX3_swapShots 22 = .ok (.invokevirtual 45, 3) := by decide +kernel
theorem dX3_swapShots_25 : decode cX3_swapShots 25 = .ok (.invokevirtual 48, 3) := by decide +kernel
theorem dX3_swapShots_28 : decode cX3_swapShots 28 = .ok (.aload_n 0, 1) := by decide +kernel
theorem dX3_swapShots_29 : decode cX3_swapShots 29 = .ok (.iload_n 2, 1) := by decide +kernel
theorem dX3_swapShots_30 : decode cX3_swapShots 30 = .ok (.iload_n 3, 1) := by decide +kernel
theorem dX3_swapShots_31 : decode cX3_swapShots 31 = .ok (.iload 4, 2) := by decide +kernel
theorem dX3_swapShots_33 : decode cX3_swapShots 33 = .ok (.invokevirtual 48, 3) := by decide +kernel
theorem dX3_swapShots_36 : decode cX3_swapShots 36 = .ok (.iinc 3 1, 3) := by decide +kernel
theorem dX3_swapShots_39 : decode cX3_swapShots 39 = .ok (.goto (-37), 3) := by decide +kernel
theorem dX3_swapShots_42 : decode cX3_swapShots 42 = .ok (.return_, 1) := by decide +kernel
theorem dX3_become_0 : decode cX3_become 0 = .ok (.aload_n 1, 1) := by decide +kernel
theorem dX3_become_1 : decode cX3_become 1 = .ok (.getfield 11, 3) := by decide +kernel
theorem dX3_become_4 : decode cX3_become 4 = .ok (.iconst 0, 1) := by decide +kernel
theorem dX3_become_5 : decode cX3_become 5 = .ok (.aload_n 0, 1) := by decide +kernel
theorem dX3_become_6 : decode cX3_become 6 = .ok (.getfield 11, 3) := by decide +kernel
theorem dX3_become_9 : decode cX3_become 9 = .ok (.iconst 0, 1) := by decide +kernel
theorem dX3_become_10 : decode cX3_become 10 = .ok (.sipush 293, 3) := by decide +kernel
theorem dX3_become_13 : decode cX3_become 13 = .ok (.invokestatic 18, 3) := by decide +kernel
theorem dX3_become_16 : decode cX3_become 16 = .ok (.return_, 1) := by decide +kernel
theorem dX3_writeTo_0 : decode cX3_writeTo 0 = .ok (.iload_n 2, 1) := by decide +kernel
theorem dX3_writeTo_1 : decode cX3_writeTo 1 = .ok (.ifCond .lt 26, 3) := by decide +kernel
theorem dX3_writeTo_4 : decode cX3_writeTo 4 = .ok (.iload_n 2, 1) := by decide +kernel
theorem dX3_writeTo_5 : decode cX3_writeTo 5 = .ok (.aload_n 1, 1) := by decide +kernel
theorem dX3_writeTo_6 : decode cX3_writeTo 6 = .ok (.arraylength, 1) := by decide +kernel
theorem dX3_writeTo_7 : decode cX3_writeTo 7 = .ok (.sipush 293, 3) := by decide +kernel
theorem dX3_writeTo_10 : decode cX3_writeTo 10 = .ok (.isub, 1) := by decide +kernel
theorem dX3_writeTo_11 : decode cX3_writeTo 11 = .ok (.if_icmp .gt 16, 3) := by decide +kernel
theorem dX3_writeTo_14 : decode cX3_writeTo 14 = .ok (.aload_n 0, 1) := by decide +kernel
theorem dX3_writeTo_15 : decode cX3_writeTo 15 = .ok (.getfield 11, 3) := by decide +kernel
theorem dX3_writeTo_18 : decode cX3_writeTo 18 = .ok (.iconst 0, 1) := by decide +kernel
theorem dX3_writeTo_19 : decode cX3_writeTo 19 = .ok (.aload_n 1, 1) := by decide +kernel
theorem dX3_writeTo_20 : decode cX3_writeTo 20 = .ok (.iload_n 2, 1) := by decide +kernel
theorem dX3_writeTo_21 : decode cX3_writeTo 21 = .ok (.sipush 293, 3) := by decide +kernel
theorem dX3_writeTo_24 : decode cX3_writeTo 24 = .ok (.invokestatic 18, 3) := by decide +kernel
theorem dX3_writeTo_27 : decode cX3_writeTo 27 = .ok (.return_, 1) := by decide +kernel
theorem dX3_readFrom_0 : decode cX3_readFrom 0 = .ok (.iload_n 2, 1) := by decide +kernel
theorem dX3_readFrom_1 : decode cX3_readFrom 1 = .ok (.ifCond .lt 26, 3) := by decide +kernel
theorem dX3_readFrom_4 : decode cX3_readFrom 4 = .ok (.iload_n 2, 1) := by decide +kernel
theorem dX3_readFrom_5 : decode cX3_readFrom 5 = .ok (.aload_n 1, 1) := by decide +kernel
theorem dX3_readFrom_6 : decode cX3_readFrom 6 = .ok (.arraylength, 1) := by decide +kernel
theorem dX3_readFrom_7 : decode cX3_readFrom 7 = .ok (.sipush 293, 3) := by decide +kernel
theorem dX3_readFrom_10 : decode cX3_readFrom 10 = .ok (.isub, 1) := by decide +kernel
theorem dX3_readFrom_11 : decode cX3_readFrom 11 = .ok (.if_icmp .gt 16, 3) := by decide +kernel
theorem dX3_readFrom_14 : decode cX3_readFrom 14 = .ok (.aload_n 1, 1) := by decide +kernel
theorem dX3_readFrom_15 : decode cX3_readFrom 15 = .ok (.iload_n 2, 1) := by decide +kernel
theorem dX3_readFrom_16 : decode cX3_readFrom 16 = .ok (.aload_n 0, 1) := by decide +kernel
theorem dX3_readFrom_17 : decode cX3_readFrom 17 = .ok (.getfield 11, 3) := by decide +kernel
theorem dX3_readFrom_20 : decode cX3_readFrom 20 = .ok (.iconst 0, 1) := by decide +kernel
theorem dX3_readFrom_21 : decode cX3_readFrom 21 = .ok (.sipush 293, 3) := by decide +kernel
theorem dX3_readFrom_24 : decode cX3_readFrom 24 = .ok (.invokestatic 18, 3) := by decide +kernel
theorem dX3_readFrom_27 : decode cX3_readFrom 27 = .ok (.return_, 1) := by decide +kernel
theorem dX4_init_0 : decode cX4_init 0 = .ok (.aload_n 0, 1) := by decide +kernel
theorem dX4_init_1 : decode cX4_init 1 = .ok (.invokespecial 1, 3) := by decide +kernel
theorem dX4_init_4 : decode cX4_init 4 = .ok (.aload_n 0, 1) := by decide +kernel
theorem dX4_init_5 : decode cX4_init 5 = .ok (.iconst 0, 1) := by decide +kernel
theorem dX4_init_6 : decode cX4_init 6 = .ok (.iload_n 1, 1) := by decide +kernel
theorem dX4_init_7 : decode cX4_init 7 = .ok (.invokestatic 7, 3) := by decide +kernel
theorem dX4_init_10 : decode cX4_init 10 = .ok (.sipush 293, 3) := by decide +kernel
theorem dX4_init_13 : decode cX4_init 13 = .ok (.imul, 1) := by decide +kernel
theorem dX4_init_14 : decode cX4_init 14 = .ok (.newarray .int, 2) := by decide +kernel
theorem dX4_init_16 : decode cX4_init 16 = .ok (.putfield 15, 3) := by decide +kernel
theorem dX4_init_19 : decode cX4_init 19 = .ok (.return_, 1) := by decide +kernel
theorem dX4_keep_0 : decode cX4_keep 0 = .ok (.aload_n 2, 1) := by decide +kernel
theorem dX4_keep_1 : decode cX4_keep 1 = .ok (.aload_n 0, 1) := by decide +kernel
theorem dX4_keep_2 : decode cX4_keep 2 = .ok (.getfield 15, 3) := by decide +kernel
theorem dX4_keep_5 : decode cX4_keep 5 = .ok (.iload_n 1, 1) := by decide +kernel
theorem dX4_keep_6 : decode cX4_keep 6 = .ok (.sipush 293, 3) := by decide +kernel
theorem dX4_keep_9 : decode cX4_keep 9 = .ok (.imul, 1) := by decide +kernel
theorem dX4_keep_10 : decode cX4_keep 10 = .ok (.invokevirtual 21, 3) := by decide +kernel
theorem dX4_keep_13 : decode cX4_keep 13 = .ok (.return_, 1) := by decide +kernel
theorem dX4_give_0 : decode cX4_give 0 = .ok (.aload_n 2, 1) := by decide +kernel
theorem dX4_give_1 : decode cX4_give 1 = .ok (.aload_n 0, 1) := by decide +kernel
theorem dX4_give_2 : decode cX4_give 2 = .ok (.getfield 15, 3) := by decide +kernel
theorem dX4_give_5 : decode cX4_give 5 = .ok (.iload_n 1, 1) := by decide +kernel
theorem dX4_give_6 : decode cX4_give 6 = .ok (.sipush 293, 3) := by decide +kernel
theorem dX4_give_9 : decode cX4_give 9 = .ok (.imul, 1) := by decide +kernel
theorem dX4_give_10 : decode cX4_give 10 = .ok (.invokevirtual 25, 3) := by decide +kernel
theorem dX4_give_13 : decode cX4_give 13 = .ok (.return_, 1) := by decide +kernel
theorem dX5_printsWith_0 : decode cX5_printsWith 0 = .ok (.aload_n 0, 1) := by decide +kernel
theorem dX5_printsWith_1 : decode cX5_printsWith 1 = .ok (.iload_n 1, 1) := by decide +kernel
theorem dX5_printsWith_2 : decode cX5_printsWith 2 = .ok (.iconst 2, 1) := by decide +kernel
theorem dX5_printsWith_3 : decode cX5_printsWith 3 = .ok (.iload_n 2, 1) := by decide +kernel
theorem dX5_printsWith_4 : decode cX5_printsWith 4 = .ok (.iadd, 1) := by decide +kernel
theorem dX5_printsWith_5 : decode cX5_printsWith 5 = .ok (.invokevirtual 11, 3) := by decide +kernel
theorem dX5_printsWith_8 : decode cX5_printsWith 8 = .ok (.istore 5, 2) := by decide +kernel
theorem dX5_printsWith_10 : decode cX5_printsWith 10 = .ok (.bipush 25, 2) := by decide +kernel
theorem dX5_printsWith_12 : decode cX5_printsWith 12 = .ok (.iload_n 3, 1) := by decide +kernel
theorem dX5_printsWith_13 : decode cX5_printsWith 13 = .ok (.iadd, 1) := by decide +kernel
theorem dX5_printsWith_14 : decode cX5_printsWith 14 = .ok (.iload 4, 2) := by decide +kernel
theorem dX5_printsWith_16 : decode cX5_printsWith 16 = .ok (.iadd, 1) := by decide +kernel
theorem dX5_printsWith_17 : decode cX5_printsWith 17 = .ok (.aload_n 0, 1) := by decide +kernel
theorem dX5_printsWith_18 : decode cX5_printsWith 18 = .ok (.iload_n 2, 1) := by decide +kernel
theorem dX5_printsWith_19 : decode cX5_printsWith 19 = .ok (.invokevirtual 15, 3) := by decide +kernel
theorem dX5_printsWith_22 : decode cX5_printsWith 22 = .ok (.isub, 1) := by decide +kernel
theorem dX5_printsWith_23 : decode cX5_printsWith 23 = .ok (.iload 5, 2) := by decide +kernel
theorem dX5_printsWith_25 : decode cX5_printsWith 25 = .ok (.isub, 1) := by decide +kernel
theorem dX5_printsWith_26 : decode cX5_printsWith 26 = .ok (.invokestatic 19, 3) := by decide +kernel
theorem dX5_printsWith_29 : decode cX5_printsWith 29 = .ok (.ireturn, 1) := by decide +kernel
theorem dX5_printsNow_0 : decode cX5_printsNow 0 = .ok (.aload_n 0, 1) := by decide +kernel
theorem dX5_printsNow_1 : decode cX5_printsNow 1 = .ok (.iload_n 1, 1) := by decide +kernel
theorem dX5_printsNow_2 : decode cX5_printsNow 2 = .ok (.bipush 8, 2) := by decide +kernel
theorem dX5_printsNow_4 : decode cX5_printsNow 4 = .ok (.iload_n 2, 1) := by decide +kernel
theorem dX5_printsNow_5 : decode cX5_printsNow 5 = .ok (.iadd, 1) := by decide +kernel
theorem dX5_printsNow_6 : decode cX5_printsNow 6 = .ok (.invokevirtual 11, 3) := by decide +kernel
theorem dX5_printsNow_9 : decode cX5_printsNow 9 = .ok (.istore_n 3, 1) := by decide +kernel
theorem dX5_printsNow_10 : decode cX5_printsNow 10 = .ok (.aload_n 0, 1) := by decide +kernel
theorem dX5_printsNow_11 : decode cX5_printsNow 11 = .ok (.iload_n 1, 1) := by decide +kernel
theorem dX5_printsNow_12 : decode cX5_printsNow 12 = .ok (.iload_n 2, 1) := by decide +kernel
theorem dX5_printsNow_13 : decode cX5_printsNow 13 = .ok (.iload_n 3, 1) := by decide +kernel
theorem dX5_printsNow_14 : decode cX5_printsNow 14 = .ok (.aload_n 0, 1) := by decide +kernel
theorem dX5_printsNow_15 : decode cX5_printsNow 15 = .ok (.bipush 7, 2) := by decide +kernel
theorem dX5_printsNow_17 : decode cX5_printsNow 17 = .ok (.iload_n 2, 1) := by decide +kernel
theorem dX5_printsNow_18 : decode cX5_printsNow 18 = .ok (.iadd, 1) := by decide +kernel
theorem dX5_printsNow_19 : decode cX5_printsNow 19 = .ok (.invokevirtual 22, 3) := by decide +kernel
theorem dX5_printsNow_22 : decode cX5_printsNow 22 = .ok (.invokestatic 25, 3) := by decide +kernel
theorem dX5_printsNow_25 : decode cX5_printsNow 25 = .ok (.ireturn, 1) := by decide +kernel
theorem dX5_offWith_0 : decode cX5_offWith 0 = .ok (.aload_n 0, 1) := by decide +kernel
theorem dX5_offWith_1 : decode cX5_offWith 1 = .ok (.iload_n 1, 1) := by decide +kernel
theorem dX5_offWith_2 : decode cX5_offWith 2 = .ok (.bipush 8, 2) := by decide +kernel
theorem dX5_offWith_4 : decode cX5_offWith 4 = .ok (.iload_n 2, 1) := by decide +kernel
theorem dX5_offWith_5 : decode cX5_offWith 5 = .ok (.iadd, 1) := by decide +kernel
theorem dX5_offWith_6 : decode cX5_offWith 6 = .ok (.invokevirtual 11, 3) := by decide +kernel
theorem dX5_offWith_9 : decode cX5_offWith 9 = .ok (.istore 4, 2) := by decide +kernel
theorem dX5_offWith_11 : decode cX5_offWith 11 = .ok (.aload_n 0, 1) := by decide +kernel
theorem dX5_offWith_12 : decode cX5_offWith 12 = .ok (.iload_n 1, 1) := by decide +kernel
theorem dX5_offWith_13 : decode cX5_offWith 13 = .ok (.iconst 5, 1) := by decide +kernel
theorem dX5_offWith_14 : decode cX5_offWith 14 = .ok (.iload_n 2, 1) := by decide +kernel
theorem dX5_offWith_15 : decode cX5_offWith 15 = .ok (.iadd, 1) := by decide +kernel
theorem dX5_offWith_16 : decode cX5_offWith 16 = .ok (.invokevirtual 11, 3) := by decide +kernel
theorem dX5_offWith_19 : decode cX5_offWith 19 = .ok (.istore 5, 2) := by decide +kernel
theorem dX5_offWith_21 : decode cX5_offWith 21 = .ok (.aload_n 0, 1) := by decide +kernel
theorem dX5_offWith_22 : decode cX5_offWith 22 = .ok (.iload_n 1, 1) := by decide +kernel
theorem dX5_offWith_23 : decode cX5_offWith 23 = .ok (.iload_n 2, 1) := by decide +kernel
theorem dX5_offWith_24 : decode cX5_offWith 24 = .ok (.iload 4, 2) := by decide +kernel
theorem dX5_offWith_26 : decode cX5_offWith 26 = .ok (.iload_n 3, 1) := by decide +kernel
theorem dX5_offWith_27 : decode cX5_offWith 27 = .ok (.invokestatic 25, 3) := by decide +kernel
theorem dX5_offWith_30 : decode cX5_offWith 30 = .ok (.bipush 25, 2) := by decide +kernel
theorem dX5_offWith_32 : decode cX5_offWith 32 = .ok (.isub, 1) := by decide +kernel
theorem dX5_offWith_33 : decode cX5_offWith 33 = .ok (.iload 5, 2) := by decide +kernel
theorem dX5_offWith_35 : decode cX5_offWith 35 = .ok (.isub, 1) := by decide +kernel
theorem dX5_offWith_36 : decode cX5_offWith 36 = .ok (.ireturn, 1) := by decide +kernel
theorem dX5_offNow_0 : decode cX5_offNow 0 = .ok (.aload_n 0, 1) := by decide +kernel
theorem dX5_offNow_1 : decode cX5_offNow 1 = .ok (.iload_n 1, 1) := by decide +kernel
theorem dX5_offNow_2 : decode cX5_offNow 2 = .ok (.iload_n 2, 1) := by decide +kernel
theorem dX5_offNow_3 : decode cX5_offNow 3 = .ok (.aload_n 0, 1) := by decide +kernel
theorem dX5_offNow_4 : decode cX5_offNow 4 = .ok (.bipush 7, 2) := by decide +kernel
theorem dX5_offNow_6 : decode cX5_offNow 6 = .ok (.iload_n 2, 1) := by decide +kernel
theorem dX5_offNow_7 : decode cX5_offNow 7 = .ok (.iadd, 1) := by decide +kernel
theorem dX5_offNow_8 : decode cX5_offNow 8 = .ok (.invokevirtual 22, 3) := by decide +kernel
theorem dX5_offNow_11 : decode cX5_offNow 11 = .ok (.invokestatic 31, 3) := by decide +kernel
theorem dX5_offNow_14 : decode cX5_offNow 14 = .ok (.ireturn, 1) := by decide +kernel
theorem dX5_feetBefore_0 : decode cX5_feetBefore 0 = .ok (.iconst 0, 1) := by decide +kernel
theorem dX5_feetBefore_1 : decode cX5_feetBefore 1 = .ok (.istore_n 2, 1) := by decide +kernel
theorem dX5_feetBefore_2 : decode cX5_feetBefore 2 = .ok (.iconst 0, 1) := by decide +kernel
theorem dX5_feetBefore_3 : decode cX5_feetBefore 3 = .ok (.istore_n 3, 1) := by decide +kernel
theorem dX5_feetBefore_4 : decode cX5_feetBefore 4 = .ok (.iload_n 3, 1) := by decide +kernel
theorem dX5_feetBefore_5 : decode cX5_feetBefore 5 = .ok (.iload_n 1, 1) := by decide +kernel
theorem dX5_feetBefore_6 : decode cX5_feetBefore 6 = .ok (.if_icmp .ge 24, 3) := by decide +kernel
theorem dX5_feetBefore_9 : decode cX5_feetBefore 9 = .ok (.iload_n 3, 1) := by decide +kernel
theorem dX5_feetBefore_10 : decode cX5_feetBefore 10 = .ok (.bipush 20, 2) := by decide +kernel
theorem dX5_feetBefore_12 : decode cX5_feetBefore 12 = .ok (.if_icmp .ge 18, 3) := by decide +kernel
theorem dX5_feetBefore_15 : decode cX5_feetBefore 15 = .ok (.iload_n 2, 1) := by decide +kernel
theorem dX5_feetBefore_16 : decode cX5_feetBefore 16 = .ok (.aload_n 0, 1) := by decide +kernel
theorem dX5_feetBefore_17 : decode cX5_feetBefore 17 = .ok (.iload_n 3, 1) := by decide +kernel
theorem dX5_feetBefore_18 : decode cX5_feetBefore 18 = .ok (.iconst 0, 1) := by decide +kernel
theorem dX5_feetBefore_19 : decode cX5_feetBefore 19 = .ok (.invokevirtual 11, 3) := by decide +kernel
theorem dX5_feetBefore_22 : decode cX5_feetBefore 22 = .ok (.iadd, 1) := by decide +kernel
theorem dX5_feetBefore_23 : decode cX5_feetBefore 23 = .ok (.istore_n 2, 1) := by decide +kernel
theorem dX5_feetBefore_24 : decode cX5_feetBefore 24 = .ok (.iinc 3 1, 3) := by decide +kernel
theorem dX5_feetBefore_27 : decode cX5_feetBefore 27 = .ok (.goto (-23), 3) := by decide +kernel
theorem dX5_feetBefore_30 : decode cX5_feetBefore 30 = .ok (.iload_n 2, 1) := by decide +kernel
theorem dX5_feetBefore_31 : decode cX5_feetBefore 31 = .ok (.ireturn, 1) := by decide +kernel
theorem dX5_isAnswered_0 : decode cX5_isAnswered 0 = .ok (.aload_n 0, 1) := by decide +kernel
theorem dX5_isAnswered_1 : decode cX5_isAnswered 1 = .ok (.iload_n 1, 1) := by decide +kernel
theorem dX5_isAnswered_2 : decode cX5_isAnswered 2 = .ok (.iconst 1, 1) := by decide +kernel
theorem dX5_isAnswered_3 : decode cX5_isAnswered 3 = .ok (.invokevirtual 11, 3) := by decide +kernel
theorem dX5_isAnswered_6 : decode cX5_isAnswered 6 = .ok (.ifCond .eq 7, 3) := by decide +kernel
theorem dX5_isAnswered_9 : decode cX5_isAnswered 9 = .ok (.iconst 1, 1) := by decide +kernel
theorem dX5_isAnswered_10 : decode cX5_isAnswered 10 = .ok (.goto 4, 3) := by decide +kernel
theorem dX5_isAnswered_13 : decode cX5_isAnswered 13 = .ok (.iconst 0, 1) := by decide +kernel
theorem dX5_isAnswered_14 : decode cX5_isAnswered 14 = .ok (.ireturn, 1) := by decide +kernel
theorem dX5_isBad_0 : decode cX5_isBad 0 = .ok (.iconst 0, 1) := by decide +kernel
theorem dX5_isBad_1 : decode cX5_isBad 1 = .ok (.istore_n 2, 1) := by decide +kernel
theorem dX5_isBad_2 : decode cX5_isBad 2 = .ok (.iconst 0, 1) := by decide +kernel
theorem dX5_isBad_3 : decode cX5_isBad 3 = .ok (.istore_n 3, 1) := by decide +kernel
theorem dX5_isBad_4 : decode cX5_isBad 4 = .ok (.iload_n 3, 1) := by decide +kernel
theorem dX5_isBad_5 : decode cX5_isBad 5 = .ok (.iconst 3, 1) := by decide +kernel
theorem dX5_isBad_6 : decode cX5_isBad 6 = .ok (.if_icmp .ge 26, 3) := by decide +kernel
theorem dX5_isBad_9 : decode cX5_isBad 9 = .ok (.iload_n 2, 1) := by decide +kernel
theorem dX5_isBad_10 : decode cX5_isBad 10 = .ok (.aload_n 0, 1) := by decide +kernel
theorem dX5_isBad_11 : decode cX5_isBad 11 = .ok (.iload_n 1, 1) := by decide +kernel
theorem dX5_isBad_12 : decode cX5_isBad 12 = .ok (.bipush 11, 2) := by decide +kernel
theorem dX5_isBad_14 : decode cX5_isBad 14 = .ok (.iload_n 3, 1) := by decide +kernel
theorem dX5_isBad_15 : decode cX5_isBad 15 = .ok (.iadd, 1) := by decide +kernel
theorem dX5_isBad_16 : decode cX5_isBad 16 = .ok (.invokevirtual 11, 3) := by decide +kernel
theorem dX5_isBad_19 : decode cX5_isBad 19 = .ok (.invokestatic 35, 3) := by decide +kernel
theorem dX5_isBad_22 : decode cX5_isBad 22 = .ok (.invokestatic 40, 3) := by decide +kernel
theorem dX5_isBad_25 : decode cX5_isBad 25 = .ok (.istore_n 2, 1) := by decide +kernel
theorem dX5_isBad_26 : decode cX5_isBad 26 = .ok (.iinc 3 1, 3) := by decide +kernel
theorem dX5_isBad_29 : decode cX5_isBad 29 = .ok (.goto (-25), 3) := by decide +kernel
theorem dX5_isBad_32 : decode cX5_isBad 32 = .ok (.aload_n 0, 1) := by decide +kernel
theorem dX5_isBad_33 : decode cX5_isBad 33 = .ok (.iload_n 1, 1) := by decide +kernel
theorem dX5_isBad_34 : decode cX5_isBad 34 = .ok (.invokestatic 43, 3) := by decide +kernel
theorem dX5_isBad_37 : decode cX5_isBad 37 = .ok (.ifCond .eq 16, 3) := by decide +kernel
theorem dX5_isBad_40 : decode cX5_isBad 40 = .ok (.iload_n 2, 1) := by decide +kernel
theorem dX5_isBad_41 : decode cX5_isBad 41 = .ok (.aload_n 0, 1) := by decide +kernel
theorem dX5_isBad_42 : decode cX5_isBad 42 = .ok (.iconst 1, 1) := by decide +kernel
theorem dX5_isBad_43 : decode cX5_isBad 43 = .ok (.invokevirtual 22, 3) := by decide +kernel
theorem dX5_isBad_46 : decode cX5_isBad 46 = .ok (.if_icmp .le 7, 3) := by decide +kernel
theorem dX5_isBad_49 : decode cX5_isBad 49 = .ok (.iconst 1, 1) := by decide +kernel
theorem dX5_isBad_50 : decode cX5_isBad 50 = .ok (.goto 4, 3) := by decide +kernel
theorem dX5_isBad_53 : decode cX5_isBad 53 = .ok (.iconst 0, 1) := by decide +kernel
theorem dX5_isBad_54 : decode cX5_isBad 54 = .ok (.ireturn, 1) := by decide +kernel
theorem dX5_isOff_0 : decode cX5_isOff 0 = .ok (.iconst 0, 1) := by decide +kernel
theorem dX5_isOff_1 : decode cX5_isOff 1 = .ok (.istore_n 2, 1) := by decide +kernel
theorem dX5_isOff_2 : decode cX5_isOff 2 = .ok (.iconst 0, 1) := by decide +kernel
theorem dX5_isOff_3 : decode cX5_isOff 3 = .ok (.istore_n 3, 1) := by decide +kernel
theorem dX5_isOff_4 : decode cX5_isOff 4 = .ok (.iload_n 3, 1) := by decide +kernel
theorem dX5_isOff_5 : decode cX5_isOff 5 = .ok (.iconst 3, 1) := by decide +kernel
theorem dX5_isOff_6 : decode cX5_isOff 6 = .ok (.if_icmp .ge 35, 3) := by decide +kernel
theorem dX5_isOff_9 : decode cX5_isOff 9 = .ok (.aload_n 0, 1) := by decide +kernel
theorem dX5_isOff_10 : decode cX5_isOff 10 = .ok (.bipush 7, 2) := by decide +kernel
theorem dX5_isOff_12 : decode cX5_isOff 12 = .ok (.iload_n 3, 1) := by decide +kernel
theorem dX5_isOff_13 : decode cX5_isOff 13 = .ok (.iadd, 1) := by decide +kernel
theorem dX5_isOff_14 : decode cX5_isOff 14 = .ok (.invokevirtual 22, 3) := by decide +kernel
theorem dX5_isOff_17 : decode cX5_isOff 17 = .ok (.istore 4, 2) := by decide +kernel
theorem dX5_isOff_19 : decode cX5_isOff 19 = .ok (.iload_n 2, 1) := by decide +kernel
theorem dX5_isOff_20 : decode cX5_isOff 20 = .ok (.aload_n 0, 1) := by decide +kernel
theorem dX5_isOff_21 : decode cX5_isOff 21 = .ok (.iload_n 1, 1) := by decide +kernel
theorem dX5_isOff_22 : decode cX5_isOff 22 = .ok (.iload_n 3, 1) := by decide +kernel
theorem dX5_isOff_23 : decode cX5_isOff 23 = .ok (.iload 4, 2) := by decide +kernel
theorem dX5_isOff_25 : decode cX5_isOff 25 = .ok (.invokestatic 31, 3) := by decide +kernel
theorem dX5_isOff_28 : decode cX5_isOff 28 = .ok (.invokestatic 35, 3) := by decide +kernel
theorem dX5_isOff_31 : decode cX5_isOff 31 = .ok (.invokestatic 40, 3) := by decide +kernel
theorem dX5_isOff_34 : decode cX5_isOff 34 = .ok (.istore_n 2, 1) := by decide +kernel
theorem dX5_isOff_35 : decode cX5_isOff 35 = .ok (.iinc 3 1, 3) := by decide +kernel
theorem dX5_isOff_38 : decode cX5_isOff 38 = .ok (.goto (-34), 3) := by decide +kernel
theorem dX5_isOff_41 : decode cX5_isOff 41 = .ok (.iload_n 2, 1) := by decide +kernel
theorem dX5_isOff_42 : decode cX5_isOff 42 = .ok (.aload_n 0, 1) := by decide +kernel
theorem dX5_isOff_43 : decode cX5_isOff 43 = .ok (.iconst 1, 1) := by decide +kernel
theorem dX5_isOff_44 : decode cX5_isOff 44 = .ok (.invokevirtual 22, 3) := by decide +kernel
theorem dX5_isOff_47 : decode cX5_isOff 47 = .ok (.if_icmp .le 7, 3) := by decide +kernel
theorem dX5_isOff_50 : decode cX5_isOff 50 = .ok (.iconst 1, 1) := by decide +kernel
theorem dX5_isOff_51 : decode cX5_isOff 51 = .ok (.goto 4, 3) := by decide +kernel
theorem dX5_isOff_54 : decode cX5_isOff 54 = .ok (.iconst 0, 1) := by decide +kernel
theorem dX5_isOff_55 : decode cX5_isOff 55 = .ok (.ireturn, 1) := by decide +kernel
theorem dX5_jumps_0 : decode cX5_jumps 0 = .ok (.aload_n 0, 1) := by decide +kernel
theorem dX5_jumps_1 : decode cX5_jumps 1 = .ok (.iload_n 1, 1) := by decide +kernel
theorem dX5_jumps_2 : decode cX5_jumps 2 = .ok (.iconst 1, 1) := by decide +kernel
theorem dX5_jumps_3 : decode cX5_jumps 3 = .ok (.iadd, 1) := by decide +kernel
theorem dX5_jumps_4 : decode cX5_jumps 4 = .ok (.invokevirtual 47, 3) := by decide +kernel
theorem dX5_jumps_7 : decode cX5_jumps 7 = .ok (.ifCond .ne 5, 3) := by decide +kernel
theorem dX5_jumps_10 : decode cX5_jumps 10 = .ok (.iconst 0, 1) := by decide +kernel
theorem dX5_jumps_11 : decode cX5_jumps 11 = .ok (.ireturn, 1) := by decide +kernel
theorem dX5_jumps_12 : decode cX5_jumps 12 = .ok (.iconst 0, 1) := by decide +kernel
theorem dX5_jumps_13 : decode cX5_jumps 13 = .ok (.istore_n 2, 1) := by decide +kernel
theorem dX5_jumps_14 : decode cX5_jumps 14 = .ok (.iconst 0, 1) := by decide +kernel
theorem dX5_jumps_15 : decode cX5_jumps 15 = .ok (.istore_n 3, 1) := by decide +kernel
theorem dX5_jumps_16 : decode cX5_jumps 16 = .ok (.iload_n 3, 1) := by decide +kernel
theorem dX5_jumps_17 : decode cX5_jumps 17 = .ok (.iconst 3, 1) := by decide +kernel
theorem dX5_jumps_18 : decode cX5_jumps 18 = .ok (.if_icmp .ge 36, 3) := by decide +kernel
theorem dX5_jumps_21 : decode cX5_jumps 21 = .ok (.aload_n 0, 1) := by decide +kernel
theorem dX5_jumps_22 : decode cX5_jumps 22 = .ok (.iload_n 1, 1) := by decide +kernel
theorem dX5_jumps_23 : decode cX5_jumps 23 = .ok (.iconst 1, 1) := by decide +kernel
theorem dX5_jumps_24 : decode cX5_jumps 24 = .ok (.iadd, 1) := by decide +kernel
theorem dX5_jumps_25 : decode cX5_jumps 25 = .ok (.iload_n 3, 1) := by decide +kernel
theorem dX5_jumps_26 : decode cX5_jumps 26 = .ok (.invokestatic 51, 3) := by decide +kernel
theorem dX5_jumps_29 : decode cX5_jumps 29 = .ok (.aload_n 0, 1) := by decide +kernel
theorem dX5_jumps_30 : decode cX5_jumps 30 = .ok (.iload_n 1, 1) := by decide +kernel
theorem dX5_jumps_31 : decode cX5_jumps 31 = .ok (.iload_n 3, 1) := by decide +kernel
theorem dX5_jumps_32 : decode cX5_jumps 32 = .ok (.invokestatic 51, 3) := by decide +kernel
theorem dX5_jumps_35 : decode cX5_jumps 35 = .ok (.isub, 1) := by decide +kernel
theorem dX5_jumps_36 : decode cX5_jumps 36 = .ok (.istore 4, 2) := by decide +kernel
theorem dX5_jumps_38 : decode cX5_jumps 38 = .ok (.iload_n 2, 1) := by decide +kernel
theorem dX5_jumps_39 : decode cX5_jumps 39 = .ok (.iload 4, 2) := by decide +kernel
theorem dX5_jumps_41 : decode cX5_jumps 41 = .ok (.invokestatic 35, 3) := by decide +kernel
theorem dX5_jumps_44 : decode cX5_jumps 44 = .ok (.invokestatic 40, 3) := by decide +kernel
theorem dX5_jumps_47 : decode cX5_jumps 47 = .ok (.istore_n 2, 1) := by decide +kernel
theorem dX5_jumps_48 : decode cX5_jumps 48 = .ok (.iinc 3 1, 3) := by decide +kernel
theorem dX5_jumps_51 : decode cX5_jumps 51 = .ok (.goto (-35), 3) := by decide +kernel
theorem dX5_jumps_54 : decode cX5_jumps 54 = .ok (.iload_n 2, 1) := by decide +kernel
theorem dX5_jumps_55 : decode cX5_jumps 55 = .ok (.aload_n 0, 1) := by decide +kernel
theorem dX5_jumps_56 : decode cX5_jumps 56 = .ok (.iconst 2, 1) := by decide +kernel
theorem dX5_jumps_57 : decode cX5_jumps 57 = .ok (.invokevirtual 22, 3) := by decide +kernel
theorem dX5_jumps_60 : decode cX5_jumps 60 = .ok (.if_icmp .le 7, 3) := by decide +kernel
theorem dX5_jumps_63 : decode cX5_jumps 63 = .ok (.iconst 1, 1) := by decide +kernel
theorem dX5_jumps_64 : decode cX5_jumps 64 = .ok (.goto 4, 3) := by decide +kernel
theorem dX5_jumps_67 : decode cX5_jumps 67 = .ok (.iconst 0, 1) := by decide +kernel
theorem dX5_jumps_68 : decode cX5_jumps 68 = .ok (.ireturn, 1) := by decide +kernel
theorem dX5_holds_0 : decode cX5_holds 0 = .ok (.iload_n 2, 1) := by decide +kernel
theorem dX5_holds_1 : decode cX5_holds 1 = .ok (.tableswitch 55 0 3 #[31, 37, 43, 49], 31) := by decide +kernel
theorem dX5_holds_32 : decode cX5_holds 32 = .ok (.aload_n 0, 1) := by decide +kernel
theorem dX5_holds_33 : decode cX5_holds 33 = .ok (.iload_n 1, 1) := by decide +kernel
theorem dX5_holds_34 : decode cX5_holds 34 = .ok (.invokestatic 43, 3) := by decide +kernel
theorem dX5_holds_37 : decode cX5_holds 37 = .ok (.ireturn, 1) := by decide +kernel
theorem dX5_holds_38 : decode cX5_holds 38 = .ok (.aload_n 0, 1) := by decide +kernel
theorem dX5_holds_39 : decode cX5_holds 39 = .ok (.iload_n 1, 1) := by decide +kernel
theorem dX5_holds_40 : decode cX5_holds 40 = .ok (.invokestatic 55, 3) := by decide +kernel
theorem dX5_holds_43 : decode cX5_holds 43 = .ok (.ireturn, 1) := by decide +kernel
theorem dX5_holds_44 : decode cX5_holds 44 = .ok (.aload_n 0, 1) := by decide +kernel
theorem dX5_holds_45 : decode cX5_holds 45 = .ok (.iload_n 1, 1) := by decide +kernel
theorem dX5_holds_46 : decode cX5_holds 46 = .ok (.invokestatic 58, 3) := by decide +kernel
theorem dX5_holds_49 : decode cX5_holds 49 = .ok (.ireturn, 1) := by decide +kernel
theorem dX5_holds_50 : decode cX5_holds 50 = .ok (.aload_n 0, 1) := by decide +kernel
theorem dX5_holds_51 : decode cX5_holds 51 = .ok (.iload_n 1, 1) := by decide +kernel
theorem dX5_holds_52 : decode cX5_holds 52 = .ok (.invokestatic 61, 3) := by decide +kernel
theorem dX5_holds_55 : decode cX5_holds 55 = .ok (.ireturn, 1) := by decide +kernel
theorem dX5_holds_56 : decode cX5_holds 56 = .ok (.iconst 0, 1) := by decide +kernel
theorem dX5_holds_57 : decode cX5_holds 57 = .ok (.ireturn, 1) := by decide +kernel
theorem dX5_setOf_0 : decode cX5_setOf 0 = .ok (.iconst 0, 1) := by decide +kernel
theorem dX5_setOf_1 : decode cX5_setOf 1 = .ok (.istore_n 2, 1) := by decide +kernel
theorem dX5_setOf_2 : decode cX5_setOf 2 = .ok (.iconst 0, 1) := by decide +kernel
theorem dX5_setOf_3 : decode cX5_setOf 3 = .ok (.istore_n 3, 1) := by decide +kernel
theorem dX5_setOf_4 : decode cX5_setOf 4 = .ok (.iload_n 3, 1) := by decide +kernel
theorem dX5_setOf_5 : decode cX5_setOf 5 = .ok (.aload_n 0, 1) := by decide +kernel
theorem dX5_setOf_6 : decode cX5_setOf 6 = .ok (.invokevirtual 64, 3) := by decide +kernel
theorem dX5_setOf_9 : decode cX5_setOf 9 = .ok (.if_icmp .ge 30, 3) := by decide +kernel
theorem dX5_setOf_12 : decode cX5_setOf 12 = .ok (.iload_n 3, 1) := by decide +kernel
theorem dX5_setOf_13 : decode cX5_setOf 13 = .ok (.bipush 20, 2) := by decide +kernel
theorem dX5_setOf_15 : decode cX5_setOf 15 = .ok (.if_icmp .ge 24, 3) := by decide +kernel
theorem dX5_setOf_18 : decode cX5_setOf 18 = .ok (.aload_n 0, 1) := by decide +kernel
theorem dX5_setOf_19 : decode cX5_setOf 19 = .ok (.iload_n 3, 1) := by decide +kernel
theorem dX5_setOf_20 : decode cX5_setOf 20 = .ok (.iload_n 1, 1) := by decide +kernel
theorem dX5_setOf_21 : decode cX5_setOf 21 = .ok (.invokestatic 68, 3) := by decide +kernel
theorem dX5_setOf_24 : decode cX5_setOf 24 = .ok (.ifCond .eq 9, 3) := by decide +kernel
theorem dX5_setOf_27 : decode cX5_setOf 27 = .ok (.iload_n 2, 1) := by decide +kernel
theorem dX5_setOf_28 : decode cX5_setOf 28 = .ok (.iconst 1, 1) := by decide +kernel
theorem dX5_setOf_29 : decode cX5_setOf 29 = .ok (.iload_n 3, 1) := by decide +kernel
theorem dX5_setOf_30 : decode cX5_setOf 30 = .ok (.ishl, 1) := by decide +kernel
theorem dX5_setOf_31 : decode cX5_setOf 31 = .ok (.ior, 1) := by decide +kernel
theorem dX5_setOf_32 : decode cX5_setOf 32 = .ok (.istore_n 2, 1) := by decide +kernel
theorem dX5_setOf_33 : decode cX5_setOf 33 = .ok (.iinc 3 1, 3) := by decide +kernel
theorem dX5_setOf_36 : decode cX5_setOf 36 = .ok (.goto (-32), 3) := by decide +kernel
theorem dX5_setOf_39 : decode cX5_setOf 39 = .ok (.iload_n 2, 1) := by decide +kernel
theorem dX5_setOf_40 : decode cX5_setOf 40 = .ok (.ireturn, 1) := by decide +kernel
theorem dX6_lightNeeded_0 : decode cX6_lightNeeded 0 = .ok (.aload_n 0, 1) := by decide +kernel
theorem dX6_lightNeeded_1 : decode cX6_lightNeeded 1 = .ok (.iload_n 1, 1) := by decide +kernel
theorem dX6_lightNeeded_2 : decode cX6_lightNeeded 2 = .ok (.iconst 2, 1) := by decide +kernel
theorem dX6_lightNeeded_3 : decode cX6_lightNeeded 3 = .ok (.iload_n 2, 1) := by decide +kernel
theorem dX6_lightNeeded_4 : decode cX6_lightNeeded 4 = .ok (.iadd, 1) := by decide +kernel
theorem dX6_lightNeeded_5 : decode cX6_lightNeeded 5 = .ok (.invokevirtual 11, 3) := by decide +kernel
theorem dX6_lightNeeded_8 : decode cX6_lightNeeded 8 = .ok (.istore 4, 2) := by decide +kernel
theorem dX6_lightNeeded_10 : decode cX6_lightNeeded 10 = .ok (.aload_n 0, 1) := by decide +kernel
theorem dX6_lightNeeded_11 : decode cX6_lightNeeded 11 = .ok (.iload_n 1, 1) := by decide +kernel
theorem dX6_lightNeeded_12 : decode cX6_lightNeeded 12 = .ok (.iconst 5, 1) := by decide +kernel
theorem dX6_lightNeeded_13 : decode cX6_lightNeeded 13 = .ok (.iload_n 2, 1) := by decide +kernel
theorem dX6_lightNeeded_14 : decode cX6_lightNeeded 14 = .ok (.iadd, 1) := by decide +kernel
theorem dX6_lightNeeded_15 : decode cX6_lightNeeded 15 = .ok (.invokevirtual 11, 3) := by decide +kernel
theorem dX6_lightNeeded_18 : decode cX6_lightNeeded 18 = .ok (.istore 5, 2) := by decide +kernel
theorem dX6_lightNeeded_20 : decode cX6_lightNeeded 20 = .ok (.iload 4, 2) := by decide +kernel
theorem dX6_lightNeeded_22 : decode cX6_lightNeeded 22 = .ok (.iload 5, 2) := by decide +kernel
theorem dX6_lightNeeded_24 : decode cX6_lightNeeded 24 = .ok (.iadd, 1) := by decide +kernel
theorem dX6_lightNeeded_25 : decode cX6_lightNeeded 25 = .ok (.iload_n 3, 1) := by decide +kernel
theorem dX6_lightNeeded_26 : decode cX6_lightNeeded 26 = .ok (.iadd, 1) := by decide +kernel
theorem dX6_lightNeeded_27 : decode cX6_lightNeeded 27 = .ok (.aload_n 0, 1) := by decide +kernel
theorem dX6_lightNeeded_28 : decode cX6_lightNeeded 28 = .ok (.bipush 7, 2) := by decide +kernel
theorem dX6_lightNeeded_30 : decode cX6_lightNeeded 30 = .ok (.iload_n 2, 1) := by decide +kernel
theorem dX6_lightNeeded_31 : decode cX6_lightNeeded 31 = .ok (.iadd, 1) := by decide +kernel
theorem dX6_lightNeeded_32 : decode cX6_lightNeeded 32 = .ok (.invokevirtual 15, 3) := by decide +kernel
theorem dX6_lightNeeded_35 : decode cX6_lightNeeded 35 = .ok (.isub, 1) := by decide +kernel
theorem dX6_lightNeeded_36 : decode cX6_lightNeeded 36 = .ok (.ireturn, 1) := by decide +kernel
theorem dX6_leastOffTrim_0 : decode cX6_leastOffTrim 0 = .ok (.iconst 0, 1) := by decide +kernel
theorem dX6_leastOffTrim_1 : decode cX6_leastOffTrim 1 = .ok (.istore_n 2, 1) := by decide +kernel
theorem dX6_leastOffTrim_2 : decode cX6_leastOffTrim 2 = .ok (.aload_n 0, 1) := by decide +kernel
theorem dX6_leastOffTrim_3 : decode cX6_leastOffTrim 3 = .ok (.iload_n 1, 1) := by decide +kernel
theorem dX6_leastOffTrim_4 : decode cX6_leastOffTrim 4 = .ok (.iconst 0, 1) := by decide +kernel
theorem dX6_leastOffTrim_5 : decode cX6_leastOffTrim 5 = .ok (.invokestatic 37, 3) := by decide +kernel
theorem dX6_leastOffTrim_8 : decode cX6_leastOffTrim 8 = .ok (.istore_n 3, 1) := by decide +kernel
theorem dX6_leastOffTrim_9 : decode cX6_leastOffTrim 9 = .ok (.iconst 2, 1) := by decide +kernel
theorem dX6_leastOffTrim_10 : decode cX6_leastOffTrim 10 = .ok (.istore 4, 2) := by decide +kernel
theorem dX6_leastOffTrim_12 : decode cX6_leastOffTrim 12 = .ok (.iload 4, 2) := by decide +kernel
theorem dX6_leastOffTrim_14 : decode cX6_leastOffTrim 14 = .ok (.bipush 41, 2) := by decide +kernel
theorem dX6_leastOffTrim_16 : decode cX6_leastOffTrim 16 = .ok (.if_icmp .gt 51, 3) := by decide +kernel
theorem dX6_leastOffTrim_19 : decode cX6_leastOffTrim 19 = .ok (.iload 4, 2) := by decide +kernel
theorem dX6_leastOffTrim_21 : decode cX6_leastOffTrim 21 = .ok (.iconst 2, 1) := by decide +kernel
theorem dX6_leastOffTrim_22 : decode cX6_leastOffTrim 22 = .ok (.irem, 1) := by decide +kernel
theorem dX6_leastOffTrim_23 : decode cX6_leastOffTrim 23 = .ok (.ifCond .ne 10, 3) := by decide +kernel
theorem dX6_leastOffTrim_26 : decode cX6_leastOffTrim 26 = .ok (.iload 4, 2) := by decide +kernel
theorem dX6_leastOffTrim_28 : decode cX6_leastOffTrim 28 = .ok (.iconst 2, 1) := by decide +kernel
theorem dX6_leastOffTrim_29 : decode cX6_leastOffTrim 29 = .ok (.idiv, 1) := by decide +kernel
theorem dX6_leastOffTrim_30 : decode cX6_leastOffTrim 30 = .ok (.goto 8, 3) := by decide +kernel
theorem dX6_leastOffTrim_33 : decode cX6_leastOffTrim 33 = .ok (.iload 4, 2) := by decide +kernel
theorem dX6_leastOffTrim_35 : decode cX6_leastOffTrim 35 = .ok (.iconst 2, 1) := by decide +kernel
theorem dX6_leastOffTrim_36 : decode cX6_leastOffTrim 36 = .ok (.idiv, 1) := by decide +kernel
theorem dX6_leastOffTrim_37 : decode cX6_leastOffTrim 37 = .ok (.ineg, 1) := by decide +kernel
theorem dX6_leastOffTrim_38 : decode cX6_leastOffTrim 38 = .ok (.istore 5, 2) := by decide +kernel
theorem dX6_leastOffTrim_40 : decode cX6_leastOffTrim 40 = .ok (.aload_n 0, 1) := by decide +kernel
theorem dX6_leastOffTrim_41 : decode cX6_leastOffTrim 41 = .ok (.iload_n 1, 1) := by decide +kernel
theorem dX6_leastOffTrim_42 : decode cX6_leastOffTrim 42 = .ok (.iload 5, 2) := by decide +kernel
theorem dX6_leastOffTrim_44 : decode cX6_leastOffTrim 44 = .ok (.invokestatic 37, 3) := by decide +kernel
theorem dX6_leastOffTrim_47 : decode cX6_leastOffTrim 47 = .ok (.istore 6, 2) := by decide +kernel
theorem dX6_leastOffTrim_49 : decode cX6_leastOffTrim 49 = .ok (.iload 6, 2) := by decide +kernel
theorem dX6_leastOffTrim_51 : decode cX6_leastOffTrim 51 = .ok (.iload_n 3, 1) := by decide +kernel
theorem dX6_leastOffTrim_52 : decode cX6_leastOffTrim 52 = .ok (.if_icmp .ge 9, 3) := by decide +kernel
theorem dX6_leastOffTrim_55 : decode cX6_leastOffTrim 55 = .ok (.iload 6, 2) := by decide +kernel
theorem dX6_leastOffTrim_57 : decode cX6_leastOffTrim 57 = .ok (.istore_n 3, 1) := by decide +kernel
theorem dX6_leastOffTrim_58 : decode cX6_leastOffTrim 58 = .ok (.iload 5, 2) := by decide +kernel
theorem dX6_leastOffTrim_60 : decode cX6_leastOffTrim 60 = .ok (.istore_n 2, 1) := by decide +kernel
theorem dX6_leastOffTrim_61 : decode cX6_leastOffTrim 61 = .ok (.iinc 4 1, 3) := by decide +kernel
theorem dX6_leastOffTrim_64 : decode cX6_leastOffTrim 64 = .ok (.goto (-52), 3) := by decide +kernel
theorem dX6_leastOffTrim_67 : decode cX6_leastOffTrim 67 = .ok (.iload_n 2, 1) := by decide +kernel
theorem dX6_leastOffTrim_68 : decode cX6_leastOffTrim 68 = .ok (.ireturn, 1) := by decide +kernel
theorem dX6_offTogether_0 : decode cX6_offTogether 0 = .ok (.iconst 0, 1) := by decide +kernel
theorem dX6_offTogether_1 : decode cX6_offTogether 1 = .ok (.istore_n 3, 1) := by decide +kernel
theorem dX6_offTogether_2 : decode cX6_offTogether 2 = .ok (.iconst 0, 1) := by decide +kernel
theorem dX6_offTogether_3 : decode cX6_offTogether 3 = .ok (.istore 4, 2) := by decide +kernel
theorem dX6_offTogether_5 : decode cX6_offTogether 5 = .ok (.iload 4, 2) := by decide +kernel
theorem dX6_offTogether_7 : decode cX6_offTogether 7 = .ok (.aload_n 0, 1) := by decide +kernel
theorem dX6_offTogether_8 : decode cX6_offTogether 8 = .ok (.invokevirtual 25, 3) := by decide +kernel
theorem dX6_offTogether_11 : decode cX6_offTogether 11 = .ok (.if_icmp .ge 30, 3) := by decide +kernel
theorem dX6_offTogether_14 : decode cX6_offTogether 14 = .ok (.iload 4, 2) := by decide +kernel
theorem dX6_offTogether_16 : decode cX6_offTogether 16 = .ok (.bipush 20, 2) := by decide +kernel
theorem dX6_offTogether_18 : decode cX6_offTogether 18 = .ok (.if_icmp .ge 23, 3) := by decide +kernel
theorem dX6_offTogether_21 : decode cX6_offTogether 21 = .ok (.iload_n 3, 1) := by decide +kernel
theorem dX6_offTogether_22 : decode cX6_offTogether 22 = .ok (.aload_n 0, 1) := by decide +kernel
theorem dX6_offTogether_23 : decode cX6_offTogether 23 = .ok (.iload 4, 2) := by decide +kernel
theorem dX6_offTogether_25 : decode cX6_offTogether 25 = .ok (.iload_n 1, 1) := by decide +kernel
theorem dX6_offTogether_26 : decode cX6_offTogether 26 = .ok (.iload_n 2, 1) := by decide +kernel
theorem dX6_offTogether_27 : decode cX6_offTogether 27 = .ok (.invokestatic 41, 3) := by decide +kernel
theorem dX6_offTogether_30 : decode cX6_offTogether 30 = .ok (.invokestatic 46, 3) := by decide +kernel
theorem dX6_offTogether_33 : decode cX6_offTogether 33 = .ok (.iadd, 1) := by decide +kernel
theorem dX6_offTogether_34 : decode cX6_offTogether 34 = .ok (.istore_n 3, 1) := by decide +kernel
theorem dX6_offTogether_35 : decode cX6_offTogether 35 = .ok (.iinc 4 1, 3) := by decide +kernel
theorem dX6_offTogether_38 : decode cX6_offTogether 38 = .ok (.goto (-33), 3) := by decide +kernel
theorem dX6_offTogether_41 : decode cX6_offTogether 41 = .ok (.iload_n 3, 1) := by decide +kernel
theorem dX6_offTogether_42 : decode cX6_offTogether 42 = .ok (.ireturn, 1) := by decide +kernel
theorem dX7_init_0 : decode cX7_init 0 = .ok (.aload_n 0, 1) := by decide +kernel
theorem dX7_init_1 : decode cX7_init 1 = .ok (.invokespecial 1, 3) := by decide +kernel
theorem dX7_init_4 : decode cX7_init 4 = .ok (.aload_n 0, 1) := by decide +kernel
theorem dX7_init_5 : decode cX7_init 5 = .ok (.new 7, 3) := by decide +kernel
theorem dX7_init_8 : decode cX7_init 8 = .ok (.dup, 1) := by decide +kernel
theorem dX7_init_9 : decode cX7_init 9 = .ok (.invokespecial 9, 3) := by decide +kernel
theorem dX7_init_12 : decode cX7_init 12 = .ok (.putfield 10, 3) := by decide +kernel
theorem dX7_init_15 : decode cX7_init 15 = .ok (.aload_n 0, 1) := by decide +kernel
theorem dX7_init_16 : decode cX7_init 16 = .ok (.new 7, 3) := by decide +kernel
theorem dX7_init_19 : decode cX7_init 19 = .ok (.dup, 1) := by decide +kernel
theorem dX7_init_20 : decode cX7_init 20 = .ok (.invokespecial 9, 3) := by decide +kernel
theorem dX7_init_23 : decode cX7_init 23 = .ok (.putfield 16, 3) := by decide +kernel
theorem dX7_init_26 : decode cX7_init 26 = .ok (.aload_n 0, 1) := by decide +kernel
theorem dX7_init_27 : decode cX7_init 27 = .ok (.new 7, 3) := by decide +kernel
theorem dX7_init_30 : decode cX7_init 30 = .ok (.dup, 1) := by decide +kernel
theorem dX7_init_31 : decode cX7_init 31 = .ok (.invokespecial 9, 3) := by decide +kernel
theorem dX7_init_34 : decode cX7_init 34 = .ok (.putfield 19, 3) := by decide +kernel
theorem dX7_init_37 : decode cX7_init 37 = .ok (.aload_n 0, 1) := by decide +kernel
theorem dX7_init_38 : decode cX7_init 38 = .ok (.new 22, 3) := by decide +kernel
theorem dX7_init_41 : decode cX7_init 41 = .ok (.dup, 1) := by decide +kernel
theorem dX7_init_42 : decode cX7_init 42 = .ok (.invokespecial 24, 3) := by decide +kernel
theorem dX7_init_45 : decode cX7_init 45 = .ok (.putfield 25, 3) := by decide +kernel
theorem dX7_init_48 : decode cX7_init 48 = .ok (.aload_n 0, 1) := by decide +kernel
theorem dX7_init_49 : decode cX7_init 49 = .ok (.new 29, 3) := by decide +kernel
theorem dX7_init_52 : decode cX7_init 52 = .ok (.dup, 1) := by decide +kernel
theorem dX7_init_53 : decode cX7_init 53 = .ok (.invokespecial 31, 3) := by decide +kernel
theorem dX7_init_56 : decode cX7_init 56 = .ok (.putfield 32, 3) := by decide +kernel
theorem dX7_init_59 : decode cX7_init 59 = .ok (.aload_n 0, 1) := by decide +kernel
theorem dX7_init_60 : decode cX7_init 60 = .ok (.new 36, 3) := by decide +kernel
theorem dX7_init_63 : decode cX7_init 63 = .ok (.dup, 1) := by decide +kernel
theorem dX7_init_64 : decode cX7_init 64 = .ok (.iconst 2, 1) := by decide +kernel
theorem dX7_init_65 : decode cX7_init 65 = .ok (.invokespecial 38, 3) := by decide +kernel
theorem dX7_init_68 : decode cX7_init 68 = .ok (.putfield 41, 3) := by decide +kernel
theorem dX7_init_71 : decode cX7_init 71 = .ok (.return_, 1) := by decide +kernel
theorem dX7_set_0 : decode cX7_set 0 = .ok (.aload_n 0, 1) := by decide +kernel
theorem dX7_set_1 : decode cX7_set 1 = .ok (.getfield 16, 3) := by decide +kernel
theorem dX7_set_4 : decode cX7_set 4 = .ok (.aload_n 0, 1) := by decide +kernel
theorem dX7_set_5 : decode cX7_set 5 = .ok (.getfield 10, 3) := by decide +kernel
theorem dX7_set_8 : decode cX7_set 8 = .ok (.invokevirtual 45, 3) := by decide +kernel
theorem dX7_set_11 : decode cX7_set 11 = .ok (.aload_n 0, 1) := by decide +kernel
theorem dX7_set_12 : decode cX7_set 12 = .ok (.aload_n 0, 1) := by decide +kernel
theorem dX7_set_13 : decode cX7_set 13 = .ok (.getfield 10, 3) := by decide +kernel
theorem dX7_set_16 : decode cX7_set 16 = .ok (.iload_n 1, 1) := by decide +kernel
theorem dX7_set_17 : decode cX7_set 17 = .ok (.iload_n 2, 1) := by decide +kernel
theorem dX7_set_18 : decode cX7_set 18 = .ok (.invokestatic 49, 3) := by decide +kernel
theorem dX7_set_21 : decode cX7_set 21 = .ok (.invokevirtual 55, 3) := by decide +kernel
theorem dX7_set_24 : decode cX7_set 24 = .ok (.ireturn, 1) := by decide +kernel
theorem dX7_shot_0 : decode cX7_shot 0 = .ok (.aload_n 0, 1) := by decide +kernel
theorem dX7_shot_1 : decode cX7_shot 1 = .ok (.getfield 16, 3) := by decide +kernel
theorem dX7_shot_4 : decode cX7_shot 4 = .ok (.aload_n 0, 1) := by decide +kernel
theorem dX7_shot_5 : decode cX7_shot 5 = .ok (.getfield 10, 3) := by decide +kernel
theorem dX7_shot_8 : decode cX7_shot 8 = .ok (.invokevirtual 45, 3) := by decide +kernel
theorem dX7_shot_11 : decode cX7_shot 11 = .ok (.aload_n 0, 1) := by decide +kernel
theorem dX7_shot_12 : decode cX7_shot 12 = .ok (.aload_n 0, 1) := by decide +kernel
theorem dX7_shot_13 : decode cX7_shot 13 = .ok (.getfield 10, 3) := by decide +kernel
theorem dX7_shot_16 : decode cX7_shot 16 = .ok (.iload_n 1, 1) := by decide +kernel
theorem dX7_shot_17 : decode cX7_shot 17 = .ok (.iload_n 2, 1) := by decide +kernel
theorem dX7_shot_18 : decode cX7_shot 18 = .ok (.iload_n 3, 1) := by decide +kernel
theorem dX7_shot_19 : decode cX7_shot 19 = .ok (.iload 4, 2) := by decide +kernel
theorem dX7_shot_21 : decode cX7_shot 21 = .ok (.iload 5, 2) := by decide +kernel
theorem dX7_shot_23 : decode cX7_shot 23 = .ok (.invokestatic 59, 3) := by decide +kernel
theorem dX7_shot_26 : decode cX7_shot 26 = .ok (.invokevirtual 55, 3) := by decide +kernel
theorem dX7_shot_29 : decode cX7_shot 29 = .ok (.ireturn, 1) := by decide +kernel
theorem dX7_takeOut_0 : decode cX7_takeOut 0 = .ok (.aload_n 0, 1) := by decide +kernel
theorem dX7_takeOut_1 : decode cX7_takeOut 1 = .ok (.getfield 16, 3) := by decide +kernel
theorem dX7_takeOut_4 : decode cX7_takeOut 4 = .ok (.aload_n 0, 1) := by decide +kernel
theorem dX7_takeOut_5 : decode cX7_takeOut 5 = .ok (.getfield 10, 3) := by decide +kernel
theorem dX7_takeOut_8 : decode cX7_takeOut 8 = .ok (.invokevirtual 45, 3) := by decide +kernel
theorem dX7_takeOut_11 : decode cX7_takeOut 11 = .ok (.aload_n 0, 1) := by decide +kernel
theorem dX7_takeOut_12 : decode cX7_takeOut 12 = .ok (.aload_n 0, 1) := by decide +kernel
theorem dX7_takeOut_13 : decode cX7_takeOut 13 = .ok (.getfield 10, 3) := by decide +kernel
theorem dX7_takeOut_16 : decode cX7_takeOut 16 = .ok (.iload_n 1, 1) := by decide +kernel
theorem dX7_takeOut_17 : decode cX7_takeOut 17 = .ok (.invokestatic 63, 3) := by decide +kernel
theorem dX7_takeOut_20 : decode cX7_takeOut 20 = .ok (.invokevirtual 55, 3) := by decide +kernel
theorem dX7_takeOut_23 : decode cX7_takeOut 23 = .ok (.ireturn, 1) := by decide +kernel
theorem dX7_light_0 : decode cX7_light 0 = .ok (.aload_n 0, 1) := by decide +kernel
theorem dX7_light_1 : decode cX7_light 1 = .ok (.getfield 16, 3) := by decide +kernel
theorem dX7_light_4 : decode cX7_light 4 = .ok (.aload_n 0, 1) := by decide +kernel
theorem dX7_light_5 : decode cX7_light 5 = .ok (.getfield 10, 3) := by decide +kernel
theorem dX7_light_8 : decode cX7_light 8 = .ok (.invokevirtual 45, 3) := by decide +kernel
theorem dX7_light_11 : decode cX7_light 11 = .ok (.aload_n 0, 1) := by decide +kernel
theorem dX7_light_12 : decode cX7_light 12 = .ok (.aload_n 0, 1) := by decide +kernel
theorem dX7_light_13 : decode cX7_light 13 = .ok (.getfield 10, 3) := by decide +kernel
theorem dX7_light_16 : decode cX7_light 16 = .ok (.iload_n 1, 1) := by decide +kernel
theorem dX7_light_17 : decode cX7_light 17 = .ok (.iload_n 2, 1) := by decide +kernel
theorem dX7_light_18 : decode cX7_light 18 = .ok (.iload_n 3, 1) := by decide +kernel
theorem dX7_light_19 : decode cX7_light 19 = .ok (.invokestatic 67, 3) := by decide +kernel
theorem dX7_light_22 : decode cX7_light 22 = .ok (.invokevirtual 55, 3) := by decide +kernel
theorem dX7_light_25 : decode cX7_light 25 = .ok (.ireturn, 1) := by decide +kernel
theorem dX7_wish_0 : decode cX7_wish 0 = .ok (.aload_n 0, 1) := by decide +kernel
theorem dX7_wish_1 : decode cX7_wish 1 = .ok (.getfield 16, 3) := by decide +kernel
theorem dX7_wish_4 : decode cX7_wish 4 = .ok (.aload_n 0, 1) := by decide +kernel
theorem dX7_wish_5 : decode cX7_wish 5 = .ok (.getfield 10, 3) := by decide +kernel
theorem dX7_wish_8 : decode cX7_wish 8 = .ok (.invokevirtual 45, 3) := by decide +kernel
theorem dX7_wish_11 : decode cX7_wish 11 = .ok (.aload_n 0, 1) := by decide +kernel
theorem dX7_wish_12 : decode cX7_wish 12 = .ok (.aload_n 0, 1) := by decide +kernel
theorem dX7_wish_13 : decode cX7_wish 13 = .ok (.getfield 10, 3) := by decide +kernel
theorem dX7_wish_16 : decode cX7_wish 16 = .ok (.iload_n 1, 1) := by decide +kernel
theorem dX7_wish_17 : decode cX7_wish 17 = .ok (.iload_n 2, 1) := by decide +kernel
theorem dX7_wish_18 : decode cX7_wish 18 = .ok (.iload_n 3, 1) := by decide +kernel
theorem dX7_wish_19 : decode cX7_wish 19 = .ok (.invokestatic 71, 3) := by decide +kernel
theorem dX7_wish_22 : decode cX7_wish 22 = .ok (.invokevirtual 55, 3) := by decide +kernel
theorem dX7_wish_25 : decode cX7_wish 25 = .ok (.ireturn, 1) := by decide +kernel
theorem dX7_move_0 : decode cX7_move 0 = .ok (.aload_n 0, 1) := by decide +kernel
theorem dX7_move_1 : decode cX7_move 1 = .ok (.getfield 16, 3) := by decide +kernel
theorem dX7_move_4 : decode cX7_move 4 = .ok (.aload_n 0, 1) := by decide +kernel
theorem dX7_move_5 : decode cX7_move 5 = .ok (.getfield 10, 3) := by decide +kernel
theorem dX7_move_8 : decode cX7_move 8 = .ok (.invokevirtual 45, 3) := by decide +kernel
theorem dX7_move_11 : decode cX7_move 11 = .ok (.aload_n 0, 1) := by decide +kernel
theorem dX7_move_12 : decode cX7_move 12 = .ok (.aload_n 0, 1) := by decide +kernel
theorem dX7_move_13 : decode cX7_move 13 = .ok (.getfield 10, 3) := by decide +kernel
theorem dX7_move_16 : decode cX7_move 16 = .ok (.iload_n 1, 1) := by decide +kernel
theorem dX7_move_17 : decode cX7_move 17 = .ok (.iload_n 2, 1) := by decide +kernel
theorem dX7_move_18 : decode cX7_move 18 = .ok (.invokestatic 74, 3) := by decide +kernel
theorem dX7_move_21 : decode cX7_move 21 = .ok (.invokevirtual 55, 3) := by decide +kernel
theorem dX7_move_24 : decode cX7_move 24 = .ok (.ireturn, 1) := by decide +kernel
theorem dX7_split_0 : decode cX7_split 0 = .ok (.aload_n 0, 1) := by decide +kernel
theorem dX7_split_1 : decode cX7_split 1 = .ok (.getfield 16, 3) := by decide +kernel
theorem dX7_split_4 : decode cX7_split 4 = .ok (.aload_n 0, 1) := by decide +kernel
theorem dX7_split_5 : decode cX7_split 5 = .ok (.getfield 10, 3) := by decide +kernel
theorem dX7_split_8 : decode cX7_split 8 = .ok (.invokevirtual 45, 3) := by decide +kernel
theorem dX7_split_11 : decode cX7_split 11 = .ok (.aload_n 0, 1) := by decide +kernel
theorem dX7_split_12 : decode cX7_split 12 = .ok (.aload_n 0, 1) := by decide +kernel
theorem dX7_split_13 : decode cX7_split 13 = .ok (.getfield 10, 3) := by decide +kernel
theorem dX7_split_16 : decode cX7_split 16 = .ok (.iload_n 1, 1) := by decide +kernel
theorem dX7_split_17 : decode cX7_split 17 = .ok (.iload_n 2, 1) := by decide +kernel
theorem dX7_split_18 : decode cX7_split 18 = .ok (.invokestatic 77, 3) := by decide +kernel
theorem dX7_split_21 : decode cX7_split 21 = .ok (.invokevirtual 55, 3) := by decide +kernel
theorem dX7_split_24 : decode cX7_split 24 = .ok (.ireturn, 1) := by decide +kernel
theorem dX7_join_0 : decode cX7_join 0 = .ok (.aload_n 0, 1) := by decide +kernel
theorem dX7_join_1 : decode cX7_join 1 = .ok (.getfield 16, 3) := by decide +kernel
theorem dX7_join_4 : decode cX7_join 4 = .ok (.aload_n 0, 1) := by decide +kernel
theorem dX7_join_5 : decode cX7_join 5 = .ok (.getfield 10, 3) := by decide +kernel
theorem dX7_join_8 : decode cX7_join 8 = .ok (.invokevirtual 45, 3) := by decide +kernel
theorem dX7_join_11 : decode cX7_join 11 = .ok (.aload_n 0, 1) := by decide +kernel
theorem dX7_join_12 : decode cX7_join 12 = .ok (.aload_n 0, 1) := by decide +kernel
theorem dX7_join_13 : decode cX7_join 13 = .ok (.getfield 10, 3) := by decide +kernel
theorem dX7_join_16 : decode cX7_join 16 = .ok (.iload_n 1, 1) := by decide +kernel
theorem dX7_join_17 : decode cX7_join 17 = .ok (.invokestatic 80, 3) := by decide +kernel
theorem dX7_join_20 : decode cX7_join 20 = .ok (.invokevirtual 55, 3) := by decide +kernel
theorem dX7_join_23 : decode cX7_join 23 = .ok (.ireturn, 1) := by decide +kernel
theorem dX7_print_0 : decode cX7_print 0 = .ok (.aload_n 0, 1) := by decide +kernel
theorem dX7_print_1 : decode cX7_print 1 = .ok (.getfield 16, 3) := by decide +kernel
theorem dX7_print_4 : decode cX7_print 4 = .ok (.aload_n 0, 1) := by decide +kernel
theorem dX7_print_5 : decode cX7_print 5 = .ok (.getfield 10, 3) := by decide +kernel
theorem dX7_print_8 : decode cX7_print 8 = .ok (.invokevirtual 45, 3) := by decide +kernel
theorem dX7_print_11 : decode cX7_print 11 = .ok (.aload_n 0, 1) := by decide +kernel
theorem dX7_print_12 : decode cX7_print 12 = .ok (.aload_n 0, 1) := by decide +kernel
theorem dX7_print_13 : decode cX7_print 13 = .ok (.getfield 10, 3) := by decide +kernel
theorem dX7_print_16 : decode cX7_print 16 = .ok (.invokestatic 83, 3) := by decide +kernel
theorem dX7_print_19 : decode cX7_print 19 = .ok (.invokevirtual 55, 3) := by decide +kernel
theorem dX7_print_22 : decode cX7_print 22 = .ok (.ireturn, 1) := by decide +kernel
theorem dX7_correct_0 : decode cX7_correct 0 = .ok (.aload_n 0, 1) := by decide +kernel
theorem dX7_correct_1 : decode cX7_correct 1 = .ok (.getfield 16, 3) := by decide +kernel
theorem dX7_correct_4 : decode cX7_correct 4 = .ok (.aload_n 0, 1) := by decide +kernel
theorem dX7_correct_5 : decode cX7_correct 5 = .ok (.getfield 10, 3) := by decide +kernel
theorem dX7_correct_8 : decode cX7_correct 8 = .ok (.invokevirtual 45, 3) := by decide +kernel
theorem dX7_correct_11 : decode cX7_correct 11 = .ok (.aload_n 0, 1) := by decide +kernel
theorem dX7_correct_12 : decode cX7_correct 12 = .ok (.aload_n 0, 1) := by decide +kernel
theorem dX7_correct_13 : decode cX7_correct 13 = .ok (.getfield 10, 3) := by decide +kernel
theorem dX7_correct_16 : decode cX7_correct 16 = .ok (.iload_n 1, 1) := by decide +kernel
theorem dX7_correct_17 : decode cX7_correct 17 = .ok (.invokestatic 87, 3) := by decide +kernel
theorem dX7_correct_20 : decode cX7_correct 20 = .ok (.invokevirtual 55, 3) := by decide +kernel
theorem dX7_correct_23 : decode cX7_correct 23 = .ok (.ireturn, 1) := by decide +kernel
theorem dX7_correctAll_0 : decode cX7_correctAll 0 = .ok (.aload_n 0, 1) := by decide +kernel
theorem dX7_correctAll_1 : decode cX7_correctAll 1 = .ok (.getfield 16, 3) := by decide +kernel
theorem dX7_correctAll_4 : decode cX7_correctAll 4 = .ok (.aload_n 0, 1) := by decide +kernel
theorem dX7_correctAll_5 : decode cX7_correctAll 5 = .ok (.getfield 10, 3) := by decide +kernel
theorem dX7_correctAll_8 : decode cX7_correctAll 8 = .ok (.invokevirtual 45, 3) := by decide +kernel
theorem dX7_correctAll_11 : decode cX7_correctAll 11 = .ok (.aload_n 0, 1) := by decide +kernel
theorem dX7_correctAll_12 : decode cX7_correctAll 12 = .ok (.aload_n 0, 1) := by decide +kernel
theorem dX7_correctAll_13 : decode cX7_correctAll 13 = .ok (.getfield 10, 3) := by decide +kernel
theorem dX7_correctAll_16 : decode cX7_correctAll 16 = .ok (.invokestatic 90, 3) := by decide +kernel
theorem dX7_correctAll_19 : decode cX7_correctAll 19 = .ok (.invokevirtual 55, 3) := by decide +kernel
theorem dX7_correctAll_22 : decode cX7_correctAll 22 = .ok (.ireturn, 1) := by decide +kernel
theorem dX7_card_0 : decode cX7_card 0 = .ok (.aload_n 0, 1) := by decide +kernel
theorem dX7_card_1 : decode cX7_card 1 = .ok (.getfield 16, 3) := by decide +kernel
theorem dX7_card_4 : decode cX7_card 4 = .ok (.aload_n 0, 1) := by decide +kernel
theorem dX7_card_5 : decode cX7_card 5 = .ok (.getfield 10, 3) := by decide +kernel
theorem dX7_card_8 : decode cX7_card 8 = .ok (.invokevirtual 45, 3) := by decide +kernel
theorem dX7_card_11 : decode cX7_card 11 = .ok (.aload_n 0, 1) := by decide +kernel
theorem dX7_card_12 : decode cX7_card 12 = .ok (.aload_n 0, 1) := by decide +kernel
theorem dX7_card_13 : decode cX7_card 13 = .ok (.getfield 10, 3) := by decide +kernel
theorem dX7_card_16 : decode cX7_card 16 = .ok (.invokestatic 93, 3) := by decide +kernel
theorem dX7_card_19 : decode cX7_card 19 = .ok (.invokevirtual 55, 3) := by decide +kernel
theorem dX7_card_22 : decode cX7_card 22 = .ok (.ireturn, 1) := by decide +kernel
theorem dX7_trim_0 : decode cX7_trim 0 = .ok (.aload_n 0, 1) := by decide +kernel
theorem dX7_trim_1 : decode cX7_trim 1 = .ok (.getfield 16, 3) := by decide +kernel
theorem dX7_trim_4 : decode cX7_trim 4 = .ok (.aload_n 0, 1) := by decide +kernel
theorem dX7_trim_5 : decode cX7_trim 5 = .ok (.getfield 10, 3) := by decide +kernel
theorem dX7_trim_8 : decode cX7_trim 8 = .ok (.invokevirtual 45, 3) := by decide +kernel
theorem dX7_trim_11 : decode cX7_trim 11 = .ok (.aload_n 0, 1) := by decide +kernel
theorem dX7_trim_12 : decode cX7_trim 12 = .ok (.aload_n 0, 1) := by decide +kernel
theorem dX7_trim_13 : decode cX7_trim 13 = .ok (.getfield 10, 3) := by decide +kernel
theorem dX7_trim_16 : decode cX7_trim 16 = .ok (.iload_n 1, 1) := by decide +kernel
theorem dX7_trim_17 : decode cX7_trim 17 = .ok (.iload_n 2, 1) := by decide +kernel
theorem dX7_trim_18 : decode cX7_trim 18 = .ok (.invokestatic 96, 3) := by decide +kernel
theorem dX7_trim_21 : decode cX7_trim 21 = .ok (.invokevirtual 55, 3) := by decide +kernel
theorem dX7_trim_24 : decode cX7_trim 24 = .ok (.ireturn, 1) := by decide +kernel
theorem dX7_lamp_0 : decode cX7_lamp 0 = .ok (.aload_n 0, 1) := by decide +kernel
theorem dX7_lamp_1 : decode cX7_lamp 1 = .ok (.getfield 16, 3) := by decide +kernel
theorem dX7_lamp_4 : decode cX7_lamp 4 = .ok (.aload_n 0, 1) := by decide +kernel
theorem dX7_lamp_5 : decode cX7_lamp 5 = .ok (.getfield 10, 3) := by decide +kernel
theorem dX7_lamp_8 : decode cX7_lamp 8 = .ok (.invokevirtual 45, 3) := by decide +kernel
theorem dX7_lamp_11 : decode cX7_lamp 11 = .ok (.aload_n 0, 1) := by decide +kernel
theorem dX7_lamp_12 : decode cX7_lamp 12 = .ok (.aload_n 0, 1) := by decide +kernel
theorem dX7_lamp_13 : decode cX7_lamp 13 = .ok (.getfield 10, 3) := by decide +kernel
theorem dX7_lamp_16 : decode cX7_lamp 16 = .ok (.iload_n 1, 1) := by decide +kernel
theorem dX7_lamp_17 : decode cX7_lamp 17 = .ok (.invokestatic 99, 3) := by decide +kernel
theorem dX7_lamp_20 : decode cX7_lamp 20 = .ok (.invokevirtual 55, 3) := by decide +kernel
theorem dX7_lamp_23 : decode cX7_lamp 23 = .ok (.ireturn, 1) := by decide +kernel
theorem dX7_of_0 : decode cX7_of 0 = .ok (.aload_n 0, 1) := by decide +kernel
theorem dX7_of_1 : decode cX7_of 1 = .ok (.getfield 10, 3) := by decide +kernel
theorem dX7_of_4 : decode cX7_of 4 = .ok (.iload_n 1, 1) := by decide +kernel
theorem dX7_of_5 : decode cX7_of 5 = .ok (.invokevirtual 102, 3) := by decide +kernel
theorem dX7_of_8 : decode cX7_of 8 = .ok (.ifCond .ne 5, 3) := by decide +kernel
theorem dX7_of_11 : decode cX7_of 11 = .ok (.iconst (-1), 1) := by decide +kernel
theorem dX7_of_12 : decode cX7_of 12 = .ok (.ireturn, 1) := by decide +kernel
theorem dX7_of_13 : decode cX7_of 13 = .ok (.iload_n 2, 1) := by decide +kernel
theorem dX7_of_14 : decode cX7_of 14 = .ok (.tableswitch 104 0 4 #[34, 44, 53, 70, 87], 34) := by decide +kernel
theorem dX7_of_48 : decode cX7_of 48 = .ok (.aload_n 0, 1) := by decide +kernel
theorem dX7_of_49 : decode cX7_of 49 = .ok (.getfield 10, 3) := by decide +kernel
theorem dX7_of_52 : decode cX7_of 52 = .ok (.iload_n 1, 1) := by decide +kernel
theorem dX7_of_53 : decode cX7_of 53 = .ok (.iconst 0, 1) := by decide +kernel
theorem dX7_of_54 : decode cX7_of 54 = .ok (.invokevirtual 106, 3) := by decide +kernel
theorem dX7_of_57 : decode cX7_of 57 = .ok (.ireturn, 1) := by decide +kernel
theorem dX7_of_58 : decode cX7_of 58 = .ok (.aload_n 0, 1) := by decide +kernel
theorem dX7_of_59 : decode cX7_of 59 = .ok (.getfield 10, 3) := by decide +kernel
theorem dX7_of_62 : decode cX7_of 62 = .ok (.iload_n 1, 1) := by decide +kernel
theorem dX7_of_63 : decode cX7_of 63 = .ok (.invokestatic 110, 3) := by decide +kernel
theorem dX7_of_66 : decode cX7_of 66 = .ok (.ireturn, 1) := by decide +kernel
theorem dX7_of_67 : decode cX7_of 67 = .ok (.aload_n 0, 1) := by decide +kernel
theorem dX7_of_68 : decode cX7_of 68 = .ok (.getfield 10, 3) := by decide +kernel
theorem dX7_of_71 : decode cX7_of 71 = .ok (.iload_n 1, 1) := by decide +kernel
theorem dX7_of_72 : decode cX7_of 72 = .ok (.invokestatic 115, 3) := by decide +kernel
theorem dX7_of_75 : decode cX7_of 75 = .ok (.ifCond .eq 7, 3) := by decide +kernel
theorem dX7_of_78 : decode cX7_of 78 = .ok (.iconst 1, 1) := by decide +kernel
theorem dX7_of_79 : decode cX7_of 79 = .ok (.goto 4, 3) := by decide +kernel
theorem dX7_of_82 : decode cX7_of 82 = .ok (.iconst 0, 1) := by decide +kernel
theorem dX7_of_83 : decode cX7_of 83 = .ok (.ireturn, 1) := by decide +kernel
theorem dX7_of_84 : decode cX7_of 84 = .ok (.aload_n 0, 1) := by decide +kernel
theorem dX7_of_85 : decode cX7_of 85 = .ok (.getfield 10, 3) := by decide +kernel
theorem dX7_of_88 : decode cX7_of 88 = .ok (.iload_n 1, 1) := by decide +kernel
theorem dX7_of_89 : decode cX7_of 89 = .ok (.invokestatic 119, 3) := by decide +kernel
theorem dX7_of_92 : decode cX7_of 92 = .ok (.ifCond .eq 7, 3) := by decide +kernel
theorem dX7_of_95 : decode cX7_of 95 = .ok (.iconst 1, 1) := by decide +kernel
theorem dX7_of_96 : decode cX7_of 96 = .ok (.goto 4, 3) := by decide +kernel
theorem dX7_of_99 : decode cX7_of 99 = .ok (.iconst 0, 1) := by decide +kernel
theorem dX7_of_100 : decode cX7_of 100 = .ok (.ireturn, 1) := by decide +kernel
theorem dX7_of_101 : decode cX7_of 101 = .ok (.aload_n 0, 1) := by decide +kernel
theorem dX7_of_102 : decode cX7_of 102 = .ok (.getfield 10, 3) := by decide +kernel
theorem dX7_of_105 : decode cX7_of 105 = .ok (.iload_n 1, 1) := by decide +kernel
theorem dX7_of_106 : decode cX7_of 106 = .ok (.invokestatic 122, 3) := by decide +kernel
theorem dX7_of_109 : decode cX7_of 109 = .ok (.ifCond .eq 7, 3) := by decide +kernel
theorem dX7_of_112 : decode cX7_of 112 = .ok (.iconst 1, 1) := by decide +kernel
theorem dX7_of_113 : decode cX7_of 113 = .ok (.goto 4, 3) := by decide +kernel
theorem dX7_of_116 : decode cX7_of 116 = .ok (.iconst 0, 1) := by decide +kernel
theorem dX7_of_117 : decode cX7_of 117 = .ok (.ireturn, 1) := by decide +kernel
theorem dX7_of_118 : decode cX7_of 118 = .ok (.bipush (-2), 2) := by decide +kernel
theorem dX7_of_120 : decode cX7_of 120 = .ok (.ireturn, 1) := by decide +kernel
theorem dX7_inColour_0 : decode cX7_inColour 0 = .ok (.aload_n 0, 1) := by decide +kernel
theorem dX7_inColour_1 : decode cX7_inColour 1 = .ok (.getfield 10, 3) := by decide +kernel
theorem dX7_inColour_4 : decode cX7_inColour 4 = .ok (.iload_n 1, 1) := by decide +kernel
theorem dX7_inColour_5 : decode cX7_inColour 5 = .ok (.invokevirtual 102, 3) := by decide +kernel
theorem dX7_inColour_8 : decode cX7_inColour 8 = .ok (.ifCond .ne 5, 3) := by decide +kernel
theorem dX7_inColour_11 : decode cX7_inColour 11 = .ok (.iconst (-1), 1) := by decide +kernel
theorem dX7_inColour_12 : decode cX7_inColour 12 = .ok (.ireturn, 1) := by decide +kernel
theorem dX7_inColour_13 : decode cX7_inColour 13 = .ok (.iload_n 2, 1) := by decide +kernel
theorem dX7_inColour_14 : decode cX7_inColour 14 = .ok (.invokestatic 125, 3) := by decide +kernel
theorem dX7_inColour_17 : decode cX7_inColour 17 = .ok (.ifCond .ne 6, 3) := by decide +kernel
theorem dX7_inColour_20 : decode cX7_inColour 20 = .ok (.bipush (-2), 2) := by decide +kernel
theorem dX7_inColour_22 : decode cX7_inColour 22 = .ok (.ireturn, 1) := by decide +kernel
theorem dX7_inColour_23 : decode cX7_inColour 23 = .ok (.iload_n 3, 1) := by decide +kernel
theorem dX7_inColour_24 : decode cX7_inColour 24 = .ok (.tableswitch 135 0 5 #[40, 52, 67, 80, 90, 103], 40) := by decide +kernel
theorem dX7_inColour_64 : decode cX7_inColour 64 = .ok (.aload_n 0, 1) := by decide +kernel
theorem dX7_inColour_65 : decode cX7_inColour 65 = .ok (.getfield 10, 3) := by decide +kernel
theorem dX7_inColour_68 : decode cX7_inColour 68 = .ok (.iload_n 1, 1) := by decide +kernel
theorem dX7_inColour_69 : decode cX7_inColour 69 = .ok (.iconst 2, 1) := by decide +kernel
theorem dX7_inColour_70 : decode cX7_inColour 70 = .ok (.iload_n 2, 1) := by decide +kernel
theorem dX7_inColour_71 : decode cX7_inColour 71 = .ok (.iadd, 1) := by decide +kernel
theorem dX7_inColour_72 : decode cX7_inColour 72 = .ok (.invokevirtual 106, 3) := by decide +kernel
theorem dX7_inColour_75 : decode cX7_inColour 75 = .ok (.ireturn, 1) := by decide +kernel
theorem dX7_inColour_76 : decode cX7_inColour 76 = .ok (.aload_n 0, 1) := by decide +kernel
theorem dX7_inColour_77 : decode cX7_inColour 77 = .ok (.getfield 10, 3) := by decide +kernel
theorem dX7_inColour_80 : decode cX7_inColour 80 = .ok (.iload_n 1, 1) := by decide +kernel
theorem dX7_inColour_81 : decode cX7_inColour 81 = .ok (.iconst 5, 1) := by decide +kernel
theorem dX7_inColour_82 : decode cX7_inColour 82 = .ok (.iload_n 2, 1) := by decide +kernel
theorem dX7_inColour_83 : decode cX7_inColour 83 = .ok (.iadd, 1) := by decide +kernel
theorem dX7_inColour_84 : decode cX7_inColour 84 = .ok (.invokevirtual 106, 3) := by decide +kernel
theorem dX7_inColour_87 : decode cX7_inColour 87 = .ok (.bipush 10, 2) := by decide +kernel
theorem dX7_inColour_89 : decode cX7_inColour 89 = .ok (.iadd, 1) := by decide +kernel
theorem dX7_inColour_90 : decode cX7_inColour 90 = .ok (.ireturn, 1) := by decide +kernel
theorem dX7_inColour_91 : decode cX7_inColour 91 = .ok (.aload_n 0, 1) := by decide +kernel
theorem dX7_inColour_92 : decode cX7_inColour 92 = .ok (.getfield 10, 3) := by decide +kernel
theorem dX7_inColour_95 : decode cX7_inColour 95 = .ok (.iload_n 1, 1) := by decide +kernel
theorem dX7_inColour_96 : decode cX7_inColour 96 = .ok (.bipush 8, 2) := by decide +kernel
theorem dX7_inColour_98 : decode cX7_inColour 98 = .ok (.iload_n 2, 1) := by decide +kernel
theorem dX7_inColour_99 : decode cX7_inColour 99 = .ok (.iadd, 1) := by decide +kernel
theorem dX7_inColour_100 : decode cX7_inColour 100 = .ok (.invokevirtual 106, 3) := by decide +kernel
theorem dX7_inColour_103 : decode cX7_inColour 103 = .ok (.ireturn, 1) := by decide +kernel
theorem dX7_inColour_104 : decode cX7_inColour 104 = .ok (.aload_n 0, 1) := by decide +kernel
theorem dX7_inColour_105 : decode cX7_inColour 105 = .ok (.getfield 10, 3) := by decide +kernel
theorem dX7_inColour_108 : decode cX7_inColour 108 = .ok (.iload_n 1, 1) := by decide +kernel
theorem dX7_inColour_109 : decode cX7_inColour 109 = .ok (.iload_n 2, 1) := by decide +kernel
theorem dX7_inColour_110 : decode cX7_inColour 110 = .ok (.invokestatic 128, 3) := by decide +kernel
theorem dX7_inColour_113 : decode cX7_inColour 113 = .ok (.ireturn, 1) := by decide +kernel
theorem dX7_inColour_114 : decode cX7_inColour 114 = .ok (.aload_n 0, 1) := by decide +kernel
theorem dX7_inColour_115 : decode cX7_inColour 115 = .ok (.getfield 10, 3) := by decide +kernel
theorem dX7_inColour_118 : decode cX7_inColour 118 = .ok (.iload_n 1, 1) := by decide +kernel
theorem dX7_inColour_119 : decode cX7_inColour 119 = .ok (.iload_n 2, 1) := by decide +kernel
theorem dX7_inColour_120 : decode cX7_inColour 120 = .ok (.invokestatic 131, 3) := by decide +kernel
theorem dX7_inColour_123 : decode cX7_inColour 123 = .ok (.bipush 100, 2) := by decide +kernel
theorem dX7_inColour_125 : decode cX7_inColour 125 = .ok (.iadd, 1) := by decide +kernel
theorem dX7_inColour_126 : decode cX7_inColour 126 = .ok (.ireturn, 1) := by decide +kernel
theorem dX7_inColour_127 : decode cX7_inColour 127 = .ok (.aload_n 0, 1) := by decide +kernel
theorem dX7_inColour_128 : decode cX7_inColour 128 = .ok (.getfield 10, 3) := by decide +kernel
theorem dX7_inColour_131 : decode cX7_inColour 131 = .ok (.iload_n 1, 1) := by decide +kernel
theorem dX7_inColour_132 : decode cX7_inColour 132 = .ok (.invokestatic 115, 3) := by decide +kernel
theorem dX7_inColour_135 : decode cX7_inColour 135 = .ok (.ifCond .eq 21, 3) := by decide +kernel
theorem dX7_inColour_138 : decode cX7_inColour 138 = .ok (.aload_n 0, 1) := by decide +kernel
theorem dX7_inColour_139 : decode cX7_inColour 139 = .ok (.getfield 10, 3) := by decide +kernel
theorem dX7_inColour_142 : decode cX7_inColour 142 = .ok (.iload_n 1, 1) := by decide +kernel
theorem dX7_inColour_143 : decode cX7_inColour 143 = .ok (.bipush 11, 2) := by decide +kernel
theorem dX7_inColour_145 : decode cX7_inColour 145 = .ok (.iload_n 2, 1) := by decide +kernel
theorem dX7_inColour_146 : decode cX7_inColour 146 = .ok (.iadd, 1) := by decide +kernel
theorem dX7_inColour_147 : decode cX7_inColour 147 = .ok (.invokevirtual 106, 3) := by decide +kernel
theorem dX7_inColour_150 : decode cX7_inColour 150 = .ok (.bipush 100, 2) := by decide +kernel
theorem dX7_inColour_152 : decode cX7_inColour 152 = .ok (.iadd, 1) := by decide +kernel
theorem dX7_inColour_153 : decode cX7_inColour 153 = .ok (.goto 5, 3) := by decide +kernel
theorem dX7_inColour_156 : decode cX7_inColour 156 = .ok (.bipush (-6), 2) := by decide +kernel
theorem dX7_inColour_158 : decode cX7_inColour 158 = .ok (.ireturn, 1) := by decide +kernel
theorem dX7_inColour_159 : decode cX7_inColour 159 = .ok (.bipush (-2), 2) := by decide +kernel
theorem dX7_inColour_161 : decode cX7_inColour 161 = .ok (.ireturn, 1) := by decide +kernel
theorem dX7_ofLamp_0 : decode cX7_ofLamp 0 = .ok (.iload_n 1, 1) := by decide +kernel
theorem dX7_ofLamp_1 : decode cX7_ofLamp 1 = .ok (.invokestatic 125, 3) := by decide +kernel
theorem dX7_ofLamp_4 : decode cX7_ofLamp 4 = .ok (.ifCond .ne 6, 3) := by decide +kernel
theorem dX7_ofLamp_7 : decode cX7_ofLamp 7 = .ok (.bipush (-2), 2) := by decide +kernel
theorem dX7_ofLamp_9 : decode cX7_ofLamp 9 = .ok (.ireturn, 1) := by decide +kernel
theorem dX7_ofLamp_10 : decode cX7_ofLamp 10 = .ok (.iload_n 2, 1) := by decide +kernel
theorem dX7_ofLamp_11 : decode cX7_ofLamp 11 = .ok (.tableswitch 60 0 2 #[25, 36, 45], 25) := by decide +kernel
theorem dX7_ofLamp_36 : decode cX7_ofLamp 36 = .ok (.aload_n 0, 1) := by decide +kernel
theorem dX7_ofLamp_37 : decode cX7_ofLamp 37 = .ok (.getfield 10, 3) := by decide +kernel
theorem dX7_ofLamp_40 : decode cX7_ofLamp 40 = .ok (.iconst 4, 1) := by decide +kernel
theorem dX7_ofLamp_41 : decode cX7_ofLamp 41 = .ok (.iload_n 1, 1) := by decide +kernel
theorem dX7_ofLamp_42 : decode cX7_ofLamp 42 = .ok (.iadd, 1) := by decide +kernel
theorem dX7_ofLamp_43 : decode cX7_ofLamp 43 = .ok (.invokevirtual 134, 3) := by decide +kernel
theorem dX7_ofLamp_46 : decode cX7_ofLamp 46 = .ok (.ireturn, 1) := by decide +kernel
theorem dX7_ofLamp_47 : decode cX7_ofLamp 47 = .ok (.aload_n 0, 1) := by decide +kernel
theorem dX7_ofLamp_48 : decode cX7_ofLamp 48 = .ok (.getfield 10, 3) := by decide +kernel
theorem dX7_ofLamp_51 : decode cX7_ofLamp 51 = .ok (.iload_n 1, 1) := by decide +kernel
theorem dX7_ofLamp_52 : decode cX7_ofLamp 52 = .ok (.invokevirtual 137, 3) := by decide +kernel
theorem dX7_ofLamp_55 : decode cX7_ofLamp 55 = .ok (.ireturn, 1) := by decide +kernel
theorem dX7_ofLamp_56 : decode cX7_ofLamp 56 = .ok (.aload_n 0, 1) := by decide +kernel
theorem dX7_ofLamp_57 : decode cX7_ofLamp 57 = .ok (.getfield 10, 3) := by decide +kernel
theorem dX7_ofLamp_60 : decode cX7_ofLamp 60 = .ok (.bipush 7, 2) := by decide +kernel
theorem dX7_ofLamp_62 : decode cX7_ofLamp 62 = .ok (.iload_n 1, 1) := by decide +kernel
theorem dX7_ofLamp_63 : decode cX7_ofLamp 63 = .ok (.iadd, 1) := by decide +kernel
theorem dX7_ofLamp_64 : decode cX7_ofLamp 64 = .ok (.invokevirtual 134, 3) := by decide +kernel
theorem dX7_ofLamp_67 : decode cX7_ofLamp 67 = .ok (.bipush 20, 2) := by decide +kernel
theorem dX7_ofLamp_69 : decode cX7_ofLamp 69 = .ok (.iadd, 1) := by decide +kernel
theorem dX7_ofLamp_70 : decode cX7_ofLamp 70 = .ok (.ireturn, 1) := by decide +kernel
theorem dX7_ofLamp_71 : decode cX7_ofLamp 71 = .ok (.bipush (-2), 2) := by decide +kernel
theorem dX7_ofLamp_73 : decode cX7_ofLamp 73 = .ok (.ireturn, 1) := by decide +kernel
theorem dX7_count_0 : decode cX7_count 0 = .ok (.iload_n 1, 1) := by decide +kernel
theorem dX7_count_1 : decode cX7_count 1 = .ok (.tableswitch 180 0 13 #[71, 79, 94, 104, 113, 122, 131, 141, 150, 150, 150, 150, 164, 172], 71) := by decide +kernel
theorem dX7_count_72 : decode cX7_count 72 = .ok (.aload_n 0, 1) := by decide +kernel
theorem dX7_count_73 : decode cX7_count 73 = .ok (.getfield 10, 3) := by decide +kernel
theorem dX7_count_76 : decode cX7_count 76 = .ok (.invokevirtual 140, 3) := by decide +kernel
theorem dX7_count_79 : decode cX7_count 79 = .ok (.ireturn, 1) := by decide +kernel
theorem dX7_count_80 : decode cX7_count 80 = .ok (.aload_n 0, 1) := by decide +kernel
theorem dX7_count_81 : decode cX7_count 81 = .ok (.getfield 10, 3) := by decide +kernel
theorem dX7_count_84 : decode cX7_count 84 = .ok (.aload_n 0, 1) := by decide +kernel
theorem dX7_count_85 : decode cX7_count 85 = .ok (.getfield 10, 3) := by decide +kernel
theorem dX7_count_88 : decode cX7_count 88 = .ok (.invokevirtual 140, 3) := by decide +kernel
theorem dX7_count_91 : decode cX7_count 91 = .ok (.invokestatic 110, 3) := by decide +kernel
theorem dX7_count_94 : decode cX7_count 94 = .ok (.ireturn, 1) := by decide +kernel
theorem dX7_count_95 : decode cX7_count 95 = .ok (.aload_n 0, 1) := by decide +kernel
theorem dX7_count_96 : decode cX7_count 96 = .ok (.getfield 10, 3) := by decide +kernel
theorem dX7_count_99 : decode cX7_count 99 = .ok (.bipush 10, 2) := by decide +kernel
theorem dX7_count_101 : decode cX7_count 101 = .ok (.invokevirtual 134, 3) := by decide +kernel
theorem dX7_count_104 : decode cX7_count 104 = .ok (.ireturn, 1) := by decide +kernel
theorem dX7_count_105 : decode cX7_count 105 = .ok (.aload_n 0, 1) := by decide +kernel
theorem dX7_count_106 : decode cX7_count 106 = .ok (.getfield 10, 3) := by decide +kernel
theorem dX7_count_109 : decode cX7_count 109 = .ok (.iconst 1, 1) := by decide +kernel
theorem dX7_count_110 : decode cX7_count 110 = .ok (.invokestatic 144, 3) := by decide +kernel
theorem dX7_count_113 : decode cX7_count 113 = .ok (.ireturn, 1) := by decide +kernel
theorem dX7_count_114 : decode cX7_count 114 = .ok (.aload_n 0, 1) := by decide +kernel
theorem dX7_count_115 : decode cX7_count 115 = .ok (.getfield 10, 3) := by decide +kernel
theorem dX7_count_118 : decode cX7_count 118 = .ok (.iconst 0, 1) := by decide +kernel
theorem dX7_count_119 : decode cX7_count 119 = .ok (.invokestatic 144, 3) := by decide +kernel
theorem dX7_count_122 : decode cX7_count 122 = .ok (.ireturn, 1) := by decide +kernel
theorem dX7_count_123 : decode cX7_count 123 = .ok (.aload_n 0, 1) := by decide +kernel
theorem dX7_count_124 : decode cX7_count 124 = .ok (.getfield 10, 3) := by decide +kernel
theorem dX7_count_127 : decode cX7_count 127 = .ok (.iconst 2, 1) := by decide +kernel
theorem dX7_count_128 : decode cX7_count 128 = .ok (.invokestatic 144, 3) := by decide +kernel
theorem dX7_count_131 : decode cX7_count 131 = .ok (.ireturn, 1) := by decide +kernel
theorem dX7_count_132 : decode cX7_count 132 = .ok (.aload_n 0, 1) := by decide +kernel
theorem dX7_count_133 : decode cX7_count 133 = .ok (.getfield 10, 3) := by decide +kernel
theorem dX7_count_136 : decode cX7_count 136 = .ok (.bipush 11, 2) := by decide +kernel
theorem dX7_count_138 : decode cX7_count 138 = .ok (.invokevirtual 134, 3) := by decide +kernel
theorem dX7_count_141 : decode cX7_count 141 = .ok (.ireturn, 1) := by decide +kernel
theorem dX7_count_142 : decode cX7_count 142 = .ok (.aload_n 0, 1) := by decide +kernel
theorem dX7_count_143 : decode cX7_count 143 = .ok (.getfield 10, 3) := by decide +kernel
theorem dX7_count_146 : decode cX7_count 146 = .ok (.iconst 3, 1) := by decide +kernel
theorem dX7_count_147 : decode cX7_count 147 = .ok (.invokestatic 144, 3) := by decide +kernel
theorem dX7_count_150 : decode cX7_count 150 = .ok (.ireturn, 1) := by decide +kernel
theorem dX7_count_151 : decode cX7_count 151 = .ok (.aload_n 0, 1) := by decide +kernel
theorem dX7_count_152 : decode cX7_count 152 = .ok (.getfield 10, 3) := by decide +kernel
theorem dX7_count_155 : decode cX7_count 155 = .ok (.iconst 0, 1) := by decide +kernel
theorem dX7_count_156 : decode cX7_count 156 = .ok (.iload_n 1, 1) := by decide +kernel
theorem dX7_count_157 : decode cX7_count 157 = .ok (.iadd, 1) := by decide +kernel
theorem dX7_count_158 : decode cX7_count 158 = .ok (.bipush 8, 2) := by decide +kernel
theorem dX7_count_160 : decode cX7_count 160 = .ok (.isub, 1) := by decide +kernel
theorem dX7_count_161 : decode cX7_count 161 = .ok (.invokevirtual 134, 3) := by decide +kernel
theorem dX7_count_164 : decode cX7_count 164 = .ok (.ireturn, 1) := by decide +kernel
theorem dX7_count_165 : decode cX7_count 165 = .ok (.aload_n 0, 1) := by decide +kernel
theorem dX7_count_166 : decode cX7_count 166 = .ok (.getfield 25, 3) := by decide +kernel
theorem dX7_count_169 : decode cX7_count 169 = .ok (.invokevirtual 147, 3) := by decide +kernel
theorem dX7_count_172 : decode cX7_count 172 = .ok (.ireturn, 1) := by decide +kernel
theorem dX7_count_173 : decode cX7_count 173 = .ok (.aload_n 0, 1) := by decide +kernel
theorem dX7_count_174 : decode cX7_count 174 = .ok (.getfield 32, 3) := by decide +kernel
theorem dX7_count_177 : decode cX7_count 177 = .ok (.invokevirtual 150, 3) := by decide +kernel
theorem dX7_count_180 : decode cX7_count 180 = .ok (.ireturn, 1) := by decide +kernel
theorem dX7_count_181 : decode cX7_count 181 = .ok (.bipush (-2), 2) := by decide +kernel
theorem dX7_count_183 : decode cX7_count 183 = .ok (.ireturn, 1) := by decide +kernel
theorem dX7_needs_0 : decode cX7_needs 0 = .ok (.aload_n 0, 1) := by decide +kernel
theorem dX7_needs_1 : decode cX7_needs 1 = .ok (.getfield 10, 3) := by decide +kernel
theorem dX7_needs_4 : decode cX7_needs 4 = .ok (.iload_n 1, 1) := by decide +kernel
theorem dX7_needs_5 : decode cX7_needs 5 = .ok (.invokevirtual 102, 3) := by decide +kernel
theorem dX7_needs_8 : decode cX7_needs 8 = .ok (.ifCond .ne 5, 3) := by decide +kernel
theorem dX7_needs_11 : decode cX7_needs 11 = .ok (.iconst (-1), 1) := by decide +kernel
theorem dX7_needs_12 : decode cX7_needs 12 = .ok (.ireturn, 1) := by decide +kernel
theorem dX7_needs_13 : decode cX7_needs 13 = .ok (.iload_n 2, 1) := by decide +kernel
theorem dX7_needs_14 : decode cX7_needs 14 = .ok (.invokestatic 125, 3) := by decide +kernel
theorem dX7_needs_17 : decode cX7_needs 17 = .ok (.ifCond .ne 6, 3) := by decide +kernel
theorem dX7_needs_20 : decode cX7_needs 20 = .ok (.bipush (-2), 2) := by decide +kernel
theorem dX7_needs_22 : decode cX7_needs 22 = .ok (.ireturn, 1) := by decide +kernel
theorem dX7_needs_23 : decode cX7_needs 23 = .ok (.aload_n 0, 1) := by decide +kernel
theorem dX7_needs_24 : decode cX7_needs 24 = .ok (.getfield 10, 3) := by decide +kernel
theorem dX7_needs_27 : decode cX7_needs 27 = .ok (.iload_n 1, 1) := by decide +kernel
theorem dX7_needs_28 : decode cX7_needs 28 = .ok (.iload_n 2, 1) := by decide +kernel
theorem dX7_needs_29 : decode cX7_needs 29 = .ok (.aload_n 0, 1) := by decide +kernel
theorem dX7_needs_30 : decode cX7_needs 30 = .ok (.getfield 10, 3) := by decide +kernel
theorem dX7_needs_33 : decode cX7_needs 33 = .ok (.iload_n 2, 1) := by decide +kernel
theorem dX7_needs_34 : decode cX7_needs 34 = .ok (.invokevirtual 137, 3) := by decide +kernel
theorem dX7_needs_37 : decode cX7_needs 37 = .ok (.invokestatic 153, 3) := by decide +kernel
theorem dX7_needs_40 : decode cX7_needs 40 = .ok (.istore_n 3, 1) := by decide +kernel
theorem dX7_needs_41 : decode cX7_needs 41 = .ok (.iload_n 3, 1) := by decide +kernel
theorem dX7_needs_42 : decode cX7_needs 42 = .ok (.invokestatic 158, 3) := by decide +kernel
theorem dX7_needs_45 : decode cX7_needs 45 = .ok (.ifCond .eq 7, 3) := by decide +kernel
theorem dX7_needs_48 : decode cX7_needs 48 = .ok (.iload_n 3, 1) := by decide +kernel
theorem dX7_needs_49 : decode cX7_needs 49 = .ok (.goto 5, 3) := by decide +kernel
theorem dX7_needs_52 : decode cX7_needs 52 = .ok (.bipush (-6), 2) := by decide +kernel
theorem dX7_needs_54 : decode cX7_needs 54 = .ok (.ireturn, 1) := by decide +kernel
theorem dX7_ifLight_0 : decode cX7_ifLight 0 = .ok (.aload_n 0, 1) := by decide +kernel
theorem dX7_ifLight_1 : decode cX7_ifLight 1 = .ok (.getfield 10, 3) := by decide +kernel
theorem dX7_ifLight_4 : decode cX7_ifLight 4 = .ok (.iload_n 1, 1) := by decide +kernel
theorem dX7_ifLight_5 : decode cX7_ifLight 5 = .ok (.invokevirtual 102, 3) := by decide +kernel
theorem dX7_ifLight_8 : decode cX7_ifLight 8 = .ok (.ifCond .ne 5, 3) := by decide +kernel
theorem dX7_ifLight_11 : decode cX7_ifLight 11 = .ok (.iconst (-1), 1) := by decide +kernel
theorem dX7_ifLight_12 : decode cX7_ifLight 12 = .ok (.ireturn, 1) := by decide +kernel
theorem dX7_ifLight_13 : decode cX7_ifLight 13 = .ok (.iload_n 2, 1) := by decide +kernel
theorem dX7_ifLight_14 : decode cX7_ifLight 14 = .ok (.invokestatic 125, 3) := by decide +kernel
theorem dX7_ifLight_17 : decode cX7_ifLight 17 = .ok (.ifCond .eq 10, 3) := by decide +kernel
theorem dX7_ifLight_20 : decode cX7_ifLight 20 = .ok (.iload_n 3, 1) := by decide +kernel
theorem dX7_ifLight_21 : decode cX7_ifLight 21 = .ok (.invokestatic 158, 3) := by decide +kernel
theorem dX7_ifLight_24 : decode cX7_ifLight 24 = .ok (.ifCond .ne 6, 3) := by decide +kernel
theorem dX7_ifLight_27 : decode cX7_ifLight 27 = .ok (.bipush (-2), 2) := by decide +kernel
theorem dX7_ifLight_29 : decode cX7_ifLight 29 = .ok (.ireturn, 1) := by decide +kernel
theorem dX7_ifLight_30 : decode cX7_ifLight 30 = .ok (.aload_n 0, 1) := by decide +kernel
theorem dX7_ifLight_31 : decode cX7_ifLight 31 = .ok (.getfield 10, 3) := by decide +kernel
theorem dX7_ifLight_34 : decode cX7_ifLight 34 = .ok (.iload_n 1, 1) := by decide +kernel
theorem dX7_ifLight_35 : decode cX7_ifLight 35 = .ok (.iload_n 2, 1) := by decide +kernel
theorem dX7_ifLight_36 : decode cX7_ifLight 36 = .ok (.iload_n 3, 1) := by decide +kernel
theorem dX7_ifLight_37 : decode cX7_ifLight 37 = .ok (.aload_n 0, 1) := by decide +kernel
theorem dX7_ifLight_38 : decode cX7_ifLight 38 = .ok (.getfield 10, 3) := by decide +kernel
theorem dX7_ifLight_41 : decode cX7_ifLight 41 = .ok (.bipush 7, 2) := by decide +kernel
theorem dX7_ifLight_43 : decode cX7_ifLight 43 = .ok (.iload_n 2, 1) := by decide +kernel
theorem dX7_ifLight_44 : decode cX7_ifLight 44 = .ok (.iadd, 1) := by decide +kernel
theorem dX7_ifLight_45 : decode cX7_ifLight 45 = .ok (.invokevirtual 134, 3) := by decide +kernel
theorem dX7_ifLight_48 : decode cX7_ifLight 48 = .ok (.invokestatic 161, 3) := by decide +kernel
theorem dX7_ifLight_51 : decode cX7_ifLight 51 = .ok (.ireturn, 1) := by decide +kernel
theorem dX7_bestTrim_0 : decode cX7_bestTrim 0 = .ok (.iload_n 1, 1) := by decide +kernel
theorem dX7_bestTrim_1 : decode cX7_bestTrim 1 = .ok (.invokestatic 125, 3) := by decide +kernel
theorem dX7_bestTrim_4 : decode cX7_bestTrim 4 = .ok (.ifCond .eq 12, 3) := by decide +kernel
theorem dX7_bestTrim_7 : decode cX7_bestTrim 7 = .ok (.iload_n 2, 1) := by decide +kernel
theorem dX7_bestTrim_8 : decode cX7_bestTrim 8 = .ok (.iconst 0, 1) := by decide +kernel
theorem dX7_bestTrim_9 : decode cX7_bestTrim 9 = .ok (.iconst 1, 1) := by decide +kernel
theorem dX7_bestTrim_10 : decode cX7_bestTrim 10 = .ok (.invokestatic 168, 3) := by decide +kernel
theorem dX7_bestTrim_13 : decode cX7_bestTrim 13 = .ok (.ifCond .ne 6, 3) := by decide +kernel
theorem dX7_bestTrim_16 : decode cX7_bestTrim 16 = .ok (.bipush (-2), 2) := by decide +kernel
theorem dX7_bestTrim_18 : decode cX7_bestTrim 18 = .ok (.ireturn, 1) := by decide +kernel
theorem dX7_bestTrim_19 : decode cX7_bestTrim 19 = .ok (.aload_n 0, 1) := by decide +kernel
theorem dX7_bestTrim_20 : decode cX7_bestTrim 20 = .ok (.getfield 10, 3) := by decide +kernel
theorem dX7_bestTrim_23 : decode cX7_bestTrim 23 = .ok (.iload_n 1, 1) := by decide +kernel
theorem dX7_bestTrim_24 : decode cX7_bestTrim 24 = .ok (.invokestatic 172, 3) := by decide +kernel
theorem dX7_bestTrim_27 : decode cX7_bestTrim 27 = .ok (.istore_n 3, 1) := by decide +kernel
theorem dX7_bestTrim_28 : decode cX7_bestTrim 28 = .ok (.iload_n 2, 1) := by decide +kernel
theorem dX7_bestTrim_29 : decode cX7_bestTrim 29 = .ok (.ifCond .ne 10, 3) := by decide +kernel
theorem dX7_bestTrim_32 : decode cX7_bestTrim 32 = .ok (.iload_n 3, 1) := by decide +kernel
theorem dX7_bestTrim_33 : decode cX7_bestTrim 33 = .ok (.bipush 20, 2) := by decide +kernel
theorem dX7_bestTrim_35 : decode cX7_bestTrim 35 = .ok (.iadd, 1) := by decide +kernel
theorem dX7_bestTrim_36 : decode cX7_bestTrim 36 = .ok (.goto 12, 3) := by decide +kernel
theorem dX7_bestTrim_39 : decode cX7_bestTrim 39 = .ok (.aload_n 0, 1) := by decide +kernel
theorem dX7_bestTrim_40 : decode cX7_bestTrim 40 = .ok (.getfield 10, 3) := by decide +kernel
theorem dX7_bestTrim_43 : decode cX7_bestTrim 43 = .ok (.iload_n 1, 1) := by decide +kernel
theorem dX7_bestTrim_44 : decode cX7_bestTrim 44 = .ok (.iload_n 3, 1) := by decide +kernel
theorem dX7_bestTrim_45 : decode cX7_bestTrim 45 = .ok (.invokestatic 175, 3) := by decide +kernel
theorem dX7_bestTrim_48 : decode cX7_bestTrim 48 = .ok (.ireturn, 1) := by decide +kernel
theorem dX7_undo_0 : decode cX7_undo 0 = .ok (.aload_n 0, 1) := by decide +kernel
theorem dX7_undo_1 : decode cX7_undo 1 = .ok (.getfield 32, 3) := by decide +kernel
theorem dX7_undo_4 : decode cX7_undo 4 = .ok (.invokevirtual 150, 3) := by decide +kernel
theorem dX7_undo_7 : decode cX7_undo 7 = .ok (.ifCond .ne 6, 3) := by decide +kernel
theorem dX7_undo_10 : decode cX7_undo 10 = .ok (.bipush (-5), 2) := by decide +kernel
theorem dX7_undo_12 : decode cX7_undo 12 = .ok (.ireturn, 1) := by decide +kernel
theorem dX7_undo_13 : decode cX7_undo 13 = .ok (.aload_n 0, 1) := by decide +kernel
theorem dX7_undo_14 : decode cX7_undo 14 = .ok (.getfield 32, 3) := by decide +kernel
theorem dX7_undo_17 : decode cX7_undo 17 = .ok (.aload_n 0, 1) := by decide +kernel
theorem dX7_undo_18 : decode cX7_undo 18 = .ok (.getfield 10, 3) := by decide +kernel
theorem dX7_undo_21 : decode cX7_undo 21 = .ok (.invokevirtual 201, 3) := by decide +kernel
theorem dX7_undo_24 : decode cX7_undo 24 = .ok (.aload_n 0, 1) := by decide +kernel
theorem dX7_undo_25 : decode cX7_undo 25 = .ok (.getfield 32, 3) := by decide +kernel
theorem dX7_undo_28 : decode cX7_undo 28 = .ok (.invokevirtual 150, 3) := by decide +kernel
theorem dX7_undo_31 : decode cX7_undo 31 = .ok (.ireturn, 1) := by decide +kernel
theorem dX7_recorded_0 : decode cX7_recorded 0 = .ok (.iload_n 1, 1) := by decide +kernel
theorem dX7_recorded_1 : decode cX7_recorded 1 = .ok (.ifCond .lt 14, 3) := by decide +kernel
theorem dX7_recorded_4 : decode cX7_recorded 4 = .ok (.aload_n 0, 1) := by decide +kernel
theorem dX7_recorded_5 : decode cX7_recorded 5 = .ok (.getfield 32, 3) := by decide +kernel
theorem dX7_recorded_8 : decode cX7_recorded 8 = .ok (.aload_n 0, 1) := by decide +kernel
theorem dX7_recorded_9 : decode cX7_recorded 9 = .ok (.getfield 16, 3) := by decide +kernel
theorem dX7_recorded_12 : decode cX7_recorded 12 = .ok (.invokevirtual 218, 3) := by decide +kernel
theorem dX7_recorded_15 : decode cX7_recorded 15 = .ok (.iload_n 1, 1) := by decide +kernel
theorem dX7_recorded_16 : decode cX7_recorded 16 = .ok (.ireturn, 1) := by decide +kernel
theorem dX7_isWithin_0 : decode cX7_isWithin 0 = .ok (.iload_n 0, 1) := by decide +kernel
theorem dX7_isWithin_1 : decode cX7_isWithin 1 = .ok (.iload_n 1, 1) := by decide +kernel
theorem dX7_isWithin_2 : decode cX7_isWithin 2 = .ok (.if_icmp .lt 12, 3) := by decide +kernel
theorem dX7_isWithin_5 : decode cX7_isWithin 5 = .ok (.iload_n 0, 1) := by decide +kernel
theorem dX7_isWithin_6 : decode cX7_isWithin 6 = .ok (.iload_n 2, 1) := by decide +kernel
theorem dX7_isWithin_7 : decode cX7_isWithin 7 = .ok (.if_icmp .gt 7, 3) := by decide +kernel
theorem dX7_isWithin_10 : decode cX7_isWithin 10 = .ok (.iconst 1, 1) := by decide +kernel
theorem dX7_isWithin_11 : decode cX7_isWithin 11 = .ok (.goto 4, 3) := by decide +kernel
theorem dX7_isWithin_14 : decode cX7_isWithin 14 = .ok (.iconst 0, 1) := by decide +kernel
theorem dX7_isWithin_15 : decode cX7_isWithin 15 = .ok (.ireturn, 1) := by decide +kernel
theorem dX7_isColour_0 : decode cX7_isColour 0 = .ok (.iload_n 0, 1) := by decide +kernel
theorem dX7_isColour_1 : decode cX7_isColour 1 = .ok (.iconst 0, 1) := by decide +kernel
theorem dX7_isColour_2 : decode cX7_isColour 2 = .ok (.iconst 2, 1) := by decide +kernel
theorem dX7_isColour_3 : decode cX7_isColour 3 = .ok (.invokestatic 168, 3) := by decide +kernel
theorem dX7_isColour_6 : decode cX7_isColour 6 = .ok (.ireturn, 1) := by decide +kernel
theorem dX7_isPoints_0 : decode cX7_isPoints 0 = .ok (.iload_n 0, 1) := by decide +kernel
theorem dX7_isPoints_1 : decode cX7_isPoints 1 = .ok (.iconst 0, 1) := by decide +kernel
theorem dX7_isPoints_2 : decode cX7_isPoints 2 = .ok (.bipush 50, 2) := by decide +kernel
theorem dX7_isPoints_4 : decode cX7_isPoints 4 = .ok (.invokestatic 168, 3) := by decide +kernel
theorem dX7_isPoints_7 : decode cX7_isPoints 7 = .ok (.ireturn, 1) := by decide +kernel
theorem dX7_bounded_0 : decode cX7_bounded 0 = .ok (.iload_n 0, 1) := by decide +kernel
theorem dX7_bounded_1 : decode cX7_bounded 1 = .ok (.ifCond .ge 7, 3) := by decide +kernel
theorem dX7_bounded_4 : decode cX7_bounded 4 = .ok (.iconst 0, 1) := by decide +kernel
theorem dX7_bounded_5 : decode cX7_bounded 5 = .ok (.goto 15, 3) := by decide +kernel
theorem dX7_bounded_8 : decode cX7_bounded 8 = .ok (.iload_n 0, 1) := by decide +kernel
theorem dX7_bounded_9 : decode cX7_bounded 9 = .ok (.bipush 50, 2) := by decide +kernel
theorem dX7_bounded_11 : decode cX7_bounded 11 = .ok (.if_icmp .le 8, 3) := by decide +kernel
theorem dX7_bounded_14 : decode cX7_bounded 14 = .ok (.bipush 50, 2) := by decide +kernel
theorem dX7_bounded_16 : decode cX7_bounded 16 = .ok (.goto 4, 3) := by decide +kernel
theorem dX7_bounded_19 : decode cX7_bounded 19 = .ok (.iload_n 0, 1) := by decide +kernel
theorem dX7_bounded_20 : decode cX7_bounded 20 = .ok (.ireturn, 1) := by decide +kernel
theorem dJ9_abs_0f7a4_0 : decode cJ9_abs_0f7a4 0 = .ok (.iload_n 0, 1) := by decide +kernel
theorem dJ9_abs_0f7a4_1 : decode cJ9_abs_0f7a4 1 = .ok (.ifCond .ge 8, 3) := by decide +kernel
theorem dJ9_abs_0f7a4_4 : decode cJ9_abs_0f7a4 4 = .ok (.iload_n 0, 1) := by decide +kernel
theorem dJ9_abs_0f7a4_5 : decode cJ9_abs_0f7a4 5 = .ok (.ineg, 1) := by decide +kernel
theorem dJ9_abs_0f7a4_6 : decode cJ9_abs_0f7a4 6 = .ok (.goto 4, 3) := by decide +kernel
theorem dJ9_abs_0f7a4_9 : decode cJ9_abs_0f7a4 9 = .ok (.iload_n 0, 1) := by decide +kernel
theorem dJ9_abs_0f7a4_10 : decode cJ9_abs_0f7a4 10 = .ok (.ireturn, 1) := by decide +kernel
theorem dJ9_max_7cf53_0 : decode cJ9_max_7cf53 0 = .ok (.iload_n 0, 1) := by decide +kernel
theorem dJ9_max_7cf53_1 : decode cJ9_max_7cf53 1 = .ok (.iload_n 1, 1) := by decide +kernel
theorem dJ9_max_7cf53_2 : decode cJ9_max_7cf53 2 = .ok (.if_icmp .lt 7, 3) := by decide +kernel
theorem dJ9_max_7cf53_5 : decode cJ9_max_7cf53 5 = .ok (.iload_n 0, 1) := by decide +kernel
theorem dJ9_max_7cf53_6 : decode cJ9_max_7cf53 6 = .ok (.goto 4, 3) := by decide +kernel
theorem dJ9_max_7cf53_9 : decode cJ9_max_7cf53 9 = .ok (.iload_n 1, 1) := by decide +kernel
theorem dJ9_max_7cf53_10 : decode cJ9_max_7cf53 10 = .ok (.ireturn, 1) := by decide +kernel
theorem dJ9_min_7cf53_0 : decode cJ9_min_7cf53 0 = .ok (.iload_n 0, 1) := by decide +kernel
theorem dJ9_min_7cf53_1 : decode cJ9_min_7cf53 1 = .ok (.iload_n 1, 1) := by decide +kernel
theorem dJ9_min_7cf53_2 : decode cJ9_min_7cf53 2 = .ok (.if_icmp .gt 7, 3) := by decide +kernel
theorem dJ9_min_7cf53_5 : decode cJ9_min_7cf53 5 = .ok (.iload_n 0, 1) := by decide +kernel
theorem dJ9_min_7cf53_6 : decode cJ9_min_7cf53 6 = .ok (.goto 4, 3) := by decide +kernel
theorem dJ9_min_7cf53_9 : decode cJ9_min_7cf53 9 = .ok (.iload_n 1, 1) := by decide +kernel
theorem dJ9_min_7cf53_10 : decode cJ9_min_7cf53 10 = .ok (.ireturn, 1) := by decide +kernel
theorem dL_cell_0 : decode cL_cell 0 = .ok (.iload_n 1, 1) := by decide +kernel
theorem dL_cell_1 : decode cL_cell 1 = .ok (.aload_n 0, 1) := by decide +kernel
theorem dL_cell_2 : decode cL_cell 2 = .ok (.arraylength, 1) := by decide +kernel
theorem dL_cell_3 : decode cL_cell 3 = .ok (.if_icmp .ge 9, 3) := by decide +kernel
theorem dL_cell_6 : decode cL_cell 6 = .ok (.aload_n 0, 1) := by decide +kernel
theorem dL_cell_7 : decode cL_cell 7 = .ok (.iload_n 1, 1) := by decide +kernel
theorem dL_cell_8 : decode cL_cell 8 = .ok (.iaload, 1) := by decide +kernel
theorem dL_cell_9 : decode cL_cell 9 = .ok (.goto 13, 3) := by decide +kernel
theorem dL_cell_12 : decode cL_cell 12 = .ok (.ldc 7, 2) := by decide +kernel
theorem dL_cell_14 : decode cL_cell 14 = .ok (.iload_n 1, 1) := by decide +kernel
theorem dL_cell_15 : decode cL_cell 15 = .ok (.bipush 9, 2) := by decide +kernel
theorem dL_cell_17 : decode cL_cell 17 = .ok (.iadd, 1) := by decide +kernel
theorem dL_cell_18 : decode cL_cell 18 = .ok (.imul, 1) := by decide +kernel
theorem dL_cell_19 : decode cL_cell 19 = .ok (.ldc 8, 2) := by decide +kernel
theorem dL_cell_21 : decode cL_cell 21 = .ok (.iadd, 1) := by decide +kernel
theorem dL_cell_22 : decode cL_cell 22 = .ok (.ireturn, 1) := by decide +kernel
theorem dL_low_0 : decode cL_low 0 = .ok (.iload_n 0, 1) := by decide +kernel
theorem dL_low_1 : decode cL_low 1 = .ok (.ldc 9, 2) := by decide +kernel
theorem dL_low_3 : decode cL_low 3 = .ok (.iand, 1) := by decide +kernel
theorem dL_low_4 : decode cL_low 4 = .ok (.iload_n 1, 1) := by decide +kernel
theorem dL_low_5 : decode cL_low 5 = .ok (.irem, 1) := by decide +kernel
theorem dL_low_6 : decode cL_low 6 = .ok (.ireturn, 1) := by decide +kernel
theorem dL_size_0 : decode cL_size 0 = .ok (.iload_n 0, 1) := by decide +kernel
theorem dL_size_1 : decode cL_size 1 = .ok (.ifCond .ge 8, 3) := by decide +kernel
theorem dL_size_4 : decode cL_size 4 = .ok (.iload_n 0, 1) := by decide +kernel
theorem dL_size_5 : decode cL_size 5 = .ok (.ineg, 1) := by decide +kernel
theorem dL_size_6 : decode cL_size 6 = .ok (.goto 4, 3) := by decide +kernel
theorem dL_size_9 : decode cL_size 9 = .ok (.iload_n 0, 1) := by decide +kernel
theorem dL_size_10 : decode cL_size 10 = .ok (.ireturn, 1) := by decide +kernel
theorem dL_prints_0 : decode cL_prints 0 = .ok (.bipush 25, 2) := by decide +kernel
theorem dL_prints_2 : decode cL_prints 2 = .ok (.iload_n 2, 1) := by decide +kernel
theorem dL_prints_3 : decode cL_prints 3 = .ok (.iadd, 1) := by decide +kernel
theorem dL_prints_4 : decode cL_prints 4 = .ok (.aload_n 3, 1) := by decide +kernel
theorem dL_prints_5 : decode cL_prints 5 = .ok (.bipush 10, 2) := by decide +kernel
theorem dL_prints_7 : decode cL_prints 7 = .ok (.iload_n 1, 1) := by decide +kernel
theorem dL_prints_8 : decode cL_prints 8 = .ok (.iadd, 1) := by decide +kernel
theorem dL_prints_9 : decode cL_prints 9 = .ok (.iaload, 1) := by decide +kernel
theorem dL_prints_10 : decode cL_prints 10 = .ok (.iadd, 1) := by decide +kernel
theorem dL_prints_11 : decode cL_prints 11 = .ok (.aload_n 3, 1) := by decide +kernel
theorem dL_prints_12 : decode cL_prints 12 = .ok (.bipush 7, 2) := by decide +kernel
theorem dL_prints_14 : decode cL_prints 14 = .ok (.iload_n 1, 1) := by decide +kernel
theorem dL_prints_15 : decode cL_prints 15 = .ok (.iadd, 1) := by decide +kernel
theorem dL_prints_16 : decode cL_prints 16 = .ok (.iaload, 1) := by decide +kernel
theorem dL_prints_17 : decode cL_prints 17 = .ok (.aload_n 3, 1) := by decide +kernel
theorem dL_prints_18 : decode cL_prints 18 = .ok (.iconst 3, 1) := by decide +kernel
theorem dL_prints_19 : decode cL_prints 19 = .ok (.iaload, 1) := by decide +kernel
theorem dL_prints_20 : decode cL_prints 20 = .ok (.imul, 1) := by decide +kernel
theorem dL_prints_21 : decode cL_prints 21 = .ok (.bipush 100, 2) := by decide +kernel
theorem dL_prints_23 : decode cL_prints 23 = .ok (.idiv, 1) := by decide +kernel
theorem dL_prints_24 : decode cL_prints 24 = .ok (.isub, 1) := by decide +kernel
theorem dL_prints_25 : decode cL_prints 25 = .ok (.aload 4, 2) := by decide +kernel
theorem dL_prints_27 : decode cL_prints 27 = .ok (.iconst 3, 1) := by decide +kernel
theorem dL_prints_28 : decode cL_prints 28 = .ok (.iload_n 0, 1) := by decide +kernel
theorem dL_prints_29 : decode cL_prints 29 = .ok (.imul, 1) := by decide +kernel
theorem dL_prints_30 : decode cL_prints 30 = .ok (.iload_n 1, 1) := by decide +kernel
theorem dL_prints_31 : decode cL_prints 31 = .ok (.iadd, 1) := by decide +kernel
theorem dL_prints_32 : decode cL_prints 32 = .ok (.iaload, 1) := by decide +kernel
theorem dL_prints_33 : decode cL_prints 33 = .ok (.isub, 1) := by decide +kernel
theorem dL_prints_34 : decode cL_prints 34 = .ok (.istore 5, 2) := by decide +kernel
theorem dL_prints_36 : decode cL_prints 36 = .ok (.iload 5, 2) := by decide +kernel
theorem dL_prints_38 : decode cL_prints 38 = .ok (.ifCond .ge 7, 3) := by decide +kernel
theorem dL_prints_41 : decode cL_prints 41 = .ok (.iconst 0, 1) := by decide +kernel
theorem dL_prints_42 : decode cL_prints 42 = .ok (.goto 17, 3) := by decide +kernel
theorem dL_prints_45 : decode cL_prints 45 = .ok (.iload 5, 2) := by decide +kernel
theorem dL_prints_47 : decode cL_prints 47 = .ok (.bipush 50, 2) := by decide +kernel
theorem dL_prints_49 : decode cL_prints 49 = .ok (.if_icmp .le 8, 3) := by decide +kernel
theorem dL_prints_52 : decode cL_prints 52 = .ok (.bipush 50, 2) := by decide +kernel
theorem dL_prints_54 : decode cL_prints 54 = .ok (.goto 5, 3) := by decide +kernel
theorem dL_prints_57 : decode cL_prints 57 = .ok (.iload 5, 2) := by decide +kernel
theorem dL_prints_59 : decode cL_prints 59 = .ok (.ireturn, 1) := by decide +kernel
theorem dL_off_0 : decode cL_off 0 = .ok (.iload_n 0, 1) := by decide +kernel
theorem dL_off_1 : decode cL_off 1 = .ok (.iload_n 1, 1) := by decide +kernel
theorem dL_off_2 : decode cL_off 2 = .ok (.aload 5, 2) := by decide +kernel
theorem dL_off_4 : decode cL_off 4 = .ok (.iconst 3, 1) := by decide +kernel
theorem dL_off_5 : decode cL_off 5 = .ok (.iload_n 0, 1) := by decide +kernel
theorem dL_off_6 : decode cL_off 6 = .ok (.imul, 1) := by decide +kernel
theorem dL_off_7 : decode cL_off 7 = .ok (.iload_n 1, 1) := by decide +kernel
theorem dL_off_8 : decode cL_off 8 = .ok (.iadd, 1) := by decide +kernel
theorem dL_off_9 : decode cL_off 9 = .ok (.iaload, 1) := by decide +kernel
theorem dL_off_10 : decode cL_off 10 = .ok (.aload_n 2, 1) := by decide +kernel
theorem dL_off_11 : decode cL_off 11 = .ok (.aload_n 3, 1) := by decide +kernel
theorem dL_off_12 : decode cL_off 12 = .ok (.invokestatic 10, 3) := by decide +kernel
theorem dL_off_15 : decode cL_off 15 = .ok (.bipush 25, 2) := by decide +kernel
theorem dL_off_17 : decode cL_off 17 = .ok (.isub, 1) := by decide +kernel
theorem dL_off_18 : decode cL_off 18 = .ok (.aload 4, 2) := by decide +kernel
theorem dL_off_20 : decode cL_off 20 = .ok (.iconst 3, 1) := by decide +kernel
theorem dL_off_21 : decode cL_off 21 = .ok (.iload_n 0, 1) := by decide +kernel
theorem dL_off_22 : decode cL_off 22 = .ok (.imul, 1) := by decide +kernel
theorem dL_off_23 : decode cL_off 23 = .ok (.iload_n 1, 1) := by decide +kernel
theorem dL_off_24 : decode cL_off 24 = .ok (.iadd, 1) := by decide +kernel
theorem dL_off_25 : decode cL_off 25 = .ok (.iaload, 1) := by decide +kernel
theorem dL_off_26 : decode cL_off 26 = .ok (.isub, 1) := by decide +kernel
theorem dL_off_27 : decode cL_off 27 = .ok (.ireturn, 1) := by decide +kernel
theorem dL_isBad_0 : decode cL_isBad 0 = .ok (.iconst 0, 1) := by decide +kernel
theorem dL_isBad_1 : decode cL_isBad 1 = .ok (.istore_n 3, 1) := by decide +kernel
theorem dL_isBad_2 : decode cL_isBad 2 = .ok (.iconst 0, 1) := by decide +kernel
theorem dL_isBad_3 : decode cL_isBad 3 = .ok (.istore 4, 2) := by decide +kernel
theorem dL_isBad_5 : decode cL_isBad 5 = .ok (.iload 4, 2) := by decide +kernel
theorem dL_isBad_7 : decode cL_isBad 7 = .ok (.iconst 3, 1) := by decide +kernel
theorem dL_isBad_8 : decode cL_isBad 8 = .ok (.if_icmp .ge 51, 3) := by decide +kernel
theorem dL_isBad_11 : decode cL_isBad 11 = .ok (.iload_n 3, 1) := by decide +kernel
theorem dL_isBad_12 : decode cL_isBad 12 = .ok (.ifCond .ne 35, 3) := by decide +kernel
theorem dL_isBad_15 : decode cL_isBad 15 = .ok (.aload_n 2, 1) := by decide +kernel
theorem dL_isBad_16 : decode cL_isBad 16 = .ok (.iconst 3, 1) := by decide +kernel
theorem dL_isBad_17 : decode cL_isBad 17 = .ok (.iload_n 0, 1) := by decide +kernel
theorem dL_isBad_18 : decode cL_isBad 18 = .ok (.imul, 1) := by decide +kernel
theorem dL_isBad_19 : decode cL_isBad 19 = .ok (.iload 4, 2) := by decide +kernel
theorem dL_isBad_21 : decode cL_isBad 21 = .ok (.iadd, 1) := by decide +kernel
theorem dL_isBad_22 : decode cL_isBad 22 = .ok (.iaload, 1) := by decide +kernel
theorem dL_isBad_23 : decode cL_isBad 23 = .ok (.ifCond .le 28, 3) := by decide +kernel
theorem dL_isBad_26 : decode cL_isBad 26 = .ok (.aload_n 2, 1) := by decide +kernel
theorem dL_isBad_27 : decode cL_isBad 27 = .ok (.iconst 3, 1) := by decide +kernel
theorem dL_isBad_28 : decode cL_isBad 28 = .ok (.iload_n 0, 1) := by decide +kernel
theorem dL_isBad_29 : decode cL_isBad 29 = .ok (.imul, 1) := by decide +kernel
theorem dL_isBad_30 : decode cL_isBad 30 = .ok (.iload 4, 2) := by decide +kernel
theorem dL_isBad_32 : decode cL_isBad 32 = .ok (.iadd, 1) := by decide +kernel
theorem dL_isBad_33 : decode cL_isBad 33 = .ok (.iaload, 1) := by decide +kernel
theorem dL_isBad_34 : decode cL_isBad 34 = .ok (.sipush 1000, 3) := by decide +kernel
theorem dL_isBad_37 : decode cL_isBad 37 = .ok (.isub, 1) := by decide +kernel
theorem dL_isBad_38 : decode cL_isBad 38 = .ok (.invokestatic 16, 3) := by decide +kernel
theorem dL_isBad_41 : decode cL_isBad 41 = .ok (.aload_n 1, 1) := by decide +kernel
theorem dL_isBad_42 : decode cL_isBad 42 = .ok (.iconst 1, 1) := by decide +kernel
theorem dL_isBad_43 : decode cL_isBad 43 = .ok (.iaload, 1) := by decide +kernel
theorem dL_isBad_44 : decode cL_isBad 44 = .ok (.if_icmp .le 7, 3) := by decide +kernel
theorem dL_isBad_47 : decode cL_isBad 47 = .ok (.iconst 1, 1) := by decide +kernel
theorem dL_isBad_48 : decode cL_isBad 48 = .ok (.goto 4, 3) := by decide +kernel
theorem dL_isBad_51 : decode cL_isBad 51 = .ok (.iconst 0, 1) := by decide +kernel
theorem dL_isBad_52 : decode cL_isBad 52 = .ok (.istore_n 3, 1) := by decide +kernel
theorem dL_isBad_53 : decode cL_isBad 53 = .ok (.iinc 4 1, 3) := by decide +kernel
theorem dL_isBad_56 : decode cL_isBad 56 = .ok (.goto (-51), 3) := by decide +kernel
theorem dL_isBad_59 : decode cL_isBad 59 = .ok (.iload_n 3, 1) := by decide +kernel
theorem dL_isBad_60 : decode cL_isBad 60 = .ok (.ireturn, 1) := by decide +kernel
theorem dL_jumps_0 : decode cL_jumps 0 = .ok (.iconst 0, 1) := by decide +kernel
theorem dL_jumps_1 : decode cL_jumps 1 = .ok (.istore 4, 2) := by decide +kernel
theorem dL_jumps_3 : decode cL_jumps 3 = .ok (.iconst 0, 1) := by decide +kernel
theorem dL_jumps_4 : decode cL_jumps 4 = .ok (.istore 5, 2) := by decide +kernel
theorem dL_jumps_6 : decode cL_jumps 6 = .ok (.iload 5, 2) := by decide +kernel
theorem dL_jumps_8 : decode cL_jumps 8 = .ok (.iconst 3, 1) := by decide +kernel
theorem dL_jumps_9 : decode cL_jumps 9 = .ok (.if_icmp .ge 76, 3) := by decide +kernel
theorem dL_jumps_12 : decode cL_jumps 12 = .ok (.iload_n 0, 1) := by decide +kernel
theorem dL_jumps_13 : decode cL_jumps 13 = .ok (.iconst 1, 1) := by decide +kernel
theorem dL_jumps_14 : decode cL_jumps 14 = .ok (.iadd, 1) := by decide +kernel
theorem dL_jumps_15 : decode cL_jumps 15 = .ok (.aload_n 1, 1) := by decide +kernel
theorem dL_jumps_16 : decode cL_jumps 16 = .ok (.iconst 4, 1) := by decide +kernel
theorem dL_jumps_17 : decode cL_jumps 17 = .ok (.iaload, 1) := by decide +kernel
theorem dL_jumps_18 : decode cL_jumps 18 = .ok (.if_icmp .ge 67, 3) := by decide +kernel
theorem dL_jumps_21 : decode cL_jumps 21 = .ok (.iload 4, 2) := by decide +kernel
theorem dL_jumps_23 : decode cL_jumps 23 = .ok (.ifCond .ne 49, 3) := by decide +kernel
theorem dL_jumps_26 : decode cL_jumps 26 = .ok (.iload_n 0, 1) := by decide +kernel
theorem dL_jumps_27 : decode cL_jumps 27 = .ok (.iload 5, 2) := by decide +kernel
theorem dL_jumps_29 : decode cL_jumps 29 = .ok (.aload_n 3, 1) := by decide +kernel
theorem dL_jumps_30 : decode cL_jumps 30 = .ok (.iconst 3, 1) := by decide +kernel
theorem dL_jumps_31 : decode cL_jumps 31 = .ok (.iload_n 0, 1) := by decide +kernel
theorem dL_jumps_32 : decode cL_jumps 32 = .ok (.imul, 1) := by decide +kernel
theorem dL_jumps_33 : decode cL_jumps 33 = .ok (.iload 5, 2) := by decide +kernel
theorem dL_jumps_35 : decode cL_jumps 35 = .ok (.iadd, 1) := by decide +kernel
theorem dL_jumps_36 : decode cL_jumps 36 = .ok (.iaload, 1) := by decide +kernel
theorem dL_jumps_37 : decode cL_jumps 37 = .ok (.aload_n 1, 1) := by decide +kernel
theorem dL_jumps_38 : decode cL_jumps 38 = .ok (.aload_n 2, 1) := by decide +kernel
theorem dL_jumps_39 : decode cL_jumps 39 = .ok (.invokestatic 10, 3) := by decide +kernel
theorem dL_jumps_42 : decode cL_jumps 42 = .ok (.iload_n 0, 1) := by decide +kernel
theorem dL_jumps_43 : decode cL_jumps 43 = .ok (.iconst 1, 1) := by decide +kernel
theorem dL_jumps_44 : decode cL_jumps 44 = .ok (.iadd, 1) := by decide +kernel
theorem dL_jumps_45 : decode cL_jumps 45 = .ok (.iload 5, 2) := by decide +kernel
theorem dL_jumps_47 : decode cL_jumps 47 = .ok (.aload_n 3, 1) := by decide +kernel
theorem dL_jumps_48 : decode cL_jumps 48 = .ok (.iconst 3, 1) := by decide +kernel
theorem dL_jumps_49 : decode cL_jumps 49 = .ok (.iload_n 0, 1) := by decide +kernel
theorem dL_jumps_50 : decode cL_jumps 50 = .ok (.imul, 1) := by decide +kernel
theorem dL_jumps_51 : decode cL_jumps 51 = .ok (.iconst 3, 1) := by decide +kernel
theorem dL_jumps_52 : decode cL_jumps 52 = .ok (.iadd, 1) := by decide +kernel
theorem dL_jumps_53 : decode cL_jumps 53 = .ok (.iload 5, 2) := by decide +kernel
theorem dL_jumps_55 : decode cL_jumps 55 = .ok (.iadd, 1) := by decide +kernel
theorem dL_jumps_56 : decode cL_jumps 56 = .ok (.iaload, 1) := by decide +kernel
theorem dL_jumps_57 : decode cL_jumps 57 = .ok (.aload_n 1, 1) := by decide +kernel
theorem dL_jumps_58 : decode cL_jumps 58 = .ok (.aload_n 2, 1) := by decide +kernel
theorem dL_jumps_59 : decode cL_jumps 59 = .ok (.invokestatic 10, 3) := by decide +kernel
theorem dL_jumps_62 : decode cL_jumps 62 = .ok (.isub, 1) := by decide +kernel
theorem dL_jumps_63 : decode cL_jumps 63 = .ok (.invokestatic 16, 3) := by decide +kernel
theorem dL_jumps_66 : decode cL_jumps 66 = .ok (.aload_n 1, 1) := by decide +kernel
theorem dL_jumps_67 : decode cL_jumps 67 = .ok (.iconst 2, 1) := by decide +kernel
theorem dL_jumps_68 : decode cL_jumps 68 = .ok (.iaload, 1) := by decide +kernel
theorem dL_jumps_69 : decode cL_jumps 69 = .ok (.if_icmp .le 7, 3) := by decide +kernel
theorem dL_jumps_72 : decode cL_jumps 72 = .ok (.iconst 1, 1) := by decide +kernel
theorem dL_jumps_73 : decode cL_jumps 73 = .ok (.goto 4, 3) := by decide +kernel
theorem dL_jumps_76 : decode cL_jumps 76 = .ok (.iconst 0, 1) := by decide +kernel
theorem dL_jumps_77 : decode cL_jumps 77 = .ok (.istore 4, 2) := by decide +kernel
theorem dL_jumps_79 : decode cL_jumps 79 = .ok (.iinc 5 1, 3) := by decide +kernel
theorem dL_jumps_82 : decode cL_jumps 82 = .ok (.goto (-76), 3) := by decide +kernel
theorem dL_jumps_85 : decode cL_jumps 85 = .ok (.iload 4, 2) := by decide +kernel
theorem dL_jumps_87 : decode cL_jumps 87 = .ok (.ireturn, 1) := by decide +kernel
theorem dL_shift_0 : decode cL_shift 0 = .ok (.iload_n 1, 1) := by decide +kernel
theorem dL_shift_1 : decode cL_shift 1 = .ok (.ifCond .le 41, 3) := by decide +kernel
theorem dL_shift_4 : decode cL_shift 4 = .ok (.aload_n 2, 1) := by decide +kernel
theorem dL_shift_5 : decode cL_shift 5 = .ok (.iconst 4, 1) := by decide +kernel
theorem dL_shift_6 : decode cL_shift 6 = .ok (.iaload, 1) := by decide +kernel
theorem dL_shift_7 : decode cL_shift 7 = .ok (.istore 8, 2) := by decide +kernel
theorem dL_shift_9 : decode cL_shift 9 = .ok (.iload 8, 2) := by decide +kernel
theorem dL_shift_11 : decode cL_shift 11 = .ok (.iload_n 0, 1) := by decide +kernel
theorem dL_shift_12 : decode cL_shift 12 = .ok (.if_icmp .le 27, 3) := by decide +kernel
theorem dL_shift_15 : decode cL_shift 15 = .ok (.iload 8, 2) := by decide +kernel
theorem dL_shift_17 : decode cL_shift 17 = .ok (.iconst 1, 1) := by decide +kernel
theorem dL_shift_18 : decode cL_shift 18 = .ok (.isub, 1) := by decide +kernel
theorem dL_shift_19 : decode cL_shift 19 = .ok (.iload 8, 2) := by decide +kernel
theorem dL_shift_21 : decode cL_shift 21 = .ok (.aload_n 3, 1) := by decide +kernel
theorem dL_shift_22 : decode cL_shift 22 = .ok (.aload 4, 2) := by decide +kernel
theorem dL_shift_24 : decode cL_shift 24 = .ok (.aload 5, 2) := by decide +kernel
theorem dL_shift_26 : decode cL_shift 26 = .ok (.aload 6, 2) := by decide +kernel
theorem dL_shift_28 : decode cL_shift 28 = .ok (.aload 7, 2) := by decide +kernel
theorem dL_shift_30 : decode cL_shift 30 = .ok (.invokestatic 20, 3) := by decide +kernel
theorem dL_shift_33 : decode cL_shift 33 = .ok (.iinc 8 (-1), 3) := by decide +kernel
theorem dL_shift_36 : decode cL_shift 36 = .ok (.goto (-27), 3) := by decide +kernel
theorem dL_shift_39 : decode cL_shift 39 = .ok (.goto 40, 3) := by decide +kernel
theorem dL_shift_42 : decode cL_shift 42 = .ok (.iload_n 0, 1) := by decide +kernel
theorem dL_shift_43 : decode cL_shift 43 = .ok (.istore 8, 2) := by decide +kernel
theorem dL_shift_45 : decode cL_shift 45 = .ok (.iload 8, 2) := by decide +kernel
theorem dL_shift_47 : decode cL_shift 47 = .ok (.iconst 1, 1) := by decide +kernel
theorem dL_shift_48 : decode cL_shift 48 = .ok (.iadd, 1) := by decide +kernel
theorem dL_shift_49 : decode cL_shift 49 = .ok (.aload_n 2, 1) := by decide +kernel
theorem dL_shift_50 : decode cL_shift 50 = .ok (.iconst 4, 1) := by decide +kernel
theorem dL_shift_51 : decode cL_shift 51 = .ok (.iaload, 1) := by decide +kernel
theorem dL_shift_52 : decode cL_shift 52 = .ok (.if_icmp .ge 27, 3) := by decide +kernel
theorem dL_shift_55 : decode cL_shift 55 = .ok (.iload 8, 2) := by decide +kernel
theorem dL_shift_57 : decode cL_shift 57 = .ok (.iconst 1, 1) := by decide +kernel
theorem dL_shift_58 : decode cL_shift 58 = .ok (.iadd, 1) := by decide +kernel
theorem dL_shift_59 : decode cL_shift 59 = .ok (.iload 8, 2) := by decide +kernel
theorem dL_shift_61 : decode cL_shift 61 = .ok (.aload_n 3, 1) := by decide +kernel
theorem dL_shift_62 : decode cL_shift 62 = .ok (.aload 4, 2) := by decide +kernel
theorem dL_shift_64 : decode cL_shift 64 = .ok (.aload 5, 2) := by decide +kernel
theorem dL_shift_66 : decode cL_shift 66 = .ok (.aload 6, 2) := by decide +kernel
theorem dL_shift_68 : decode cL_shift 68 = .ok (.aload 7, 2) := by decide +kernel
theorem dL_shift_70 : decode cL_shift 70 = .ok (.invokestatic 20, 3) := by decide +kernel
theorem dL_shift_73 : decode cL_shift 73 = .ok (.iinc 8 1, 3) := by decide +kernel
theorem dL_shift_76 : decode cL_shift 76 = .ok (.goto (-31), 3) := by decide +kernel
theorem dL_shift_79 : decode cL_shift 79 = .ok (.aload_n 2, 1) := by decide +kernel
theorem dL_shift_80 : decode cL_shift 80 = .ok (.iconst 4, 1) := by decide +kernel
theorem dL_shift_81 : decode cL_shift 81 = .ok (.dup2, 1) := by decide +kernel
theorem dL_shift_82 : decode cL_shift 82 = .ok (.iaload, 1) := by decide +kernel
theorem dL_shift_83 : decode cL_shift 83 = .ok (.iload_n 1, 1) := by decide +kernel
theorem dL_shift_84 : decode cL_shift 84 = .ok (.iadd, 1) := by decide +kernel
theorem dL_shift_85 : decode cL_shift 85 = .ok (.iastore, 1) := by decide +kernel
theorem dL_shift_86 : decode cL_shift 86 = .ok (.return_, 1) := by decide +kernel
theorem dL_copy_0 : decode cL_copy 0 = .ok (.aload_n 2, 1) := by decide +kernel
theorem dL_copy_1 : decode cL_copy 1 = .ok (.iload_n 1, 1) := by decide +kernel
theorem dL_copy_2 : decode cL_copy 2 = .ok (.aload_n 2, 1) := by decide +kernel
theorem dL_copy_3 : decode cL_copy 3 = .ok (.iload_n 0, 1) := by decide +kernel
theorem dL_copy_4 : decode cL_copy 4 = .ok (.iaload, 1) := by decide +kernel
theorem dL_copy_5 : decode cL_copy 5 = .ok (.iastore, 1) := by decide +kernel
theorem dL_copy_6 : decode cL_copy 6 = .ok (.iconst 0, 1) := by decide +kernel
theorem dL_copy_7 : decode cL_copy 7 = .ok (.istore 7, 2) := by decide +kernel
theorem dL_copy_9 : decode cL_copy 9 = .ok (.iload 7, 2) := by decide +kernel
theorem dL_copy_11 : decode cL_copy 11 = .ok (.iconst 3, 1) := by decide +kernel
theorem dL_copy_12 : decode cL_copy 12 = .ok (.if_icmp .ge 79, 3) := by decide +kernel
theorem dL_copy_15 : decode cL_copy 15 = .ok (.aload_n 3, 1) := by decide +kernel
theorem dL_copy_16 : decode cL_copy 16 = .ok (.iconst 3, 1) := by decide +kernel
theorem dL_copy_17 : decode cL_copy 17 = .ok (.iload_n 1, 1) := by decide +kernel
theorem dL_copy_18 : decode cL_copy 18 = .ok (.imul, 1) := by decide +kernel
theorem dL_copy_19 : decode cL_copy 19 = .ok (.iload 7, 2) := by decide +kernel
theorem dL_copy_21 : decode cL_copy 21 = .ok (.iadd, 1) := by decide +kernel
theorem dL_copy_22 : decode cL_copy 22 = .ok (.aload_n 3, 1) := by decide +kernel
theorem dL_copy_23 : decode cL_copy 23 = .ok (.iconst 3, 1) := by decide +kernel
theorem dL_copy_24 : decode cL_copy 24 = .ok (.iload_n 0, 1) := by decide +kernel
theorem dL_copy_25 : decode cL_copy 25 = .ok (.imul, 1) := by decide +kernel
theorem dL_copy_26 : decode cL_copy 26 = .ok (.iload 7, 2) := by decide +kernel
theorem dL_copy_28 : decode cL_copy 28 = .ok (.iadd, 1) := by decide +kernel
theorem dL_copy_29 : decode cL_copy 29 = .ok (.iaload, 1) := by decide +kernel
theorem dL_copy_30 : decode cL_copy 30 = .ok (.iastore, 1) := by decide +kernel
theorem dL_copy_31 : decode cL_copy 31 = .ok (.aload 4, 2) := by decide +kernel
theorem dL_copy_33 : decode cL_copy 33 = .ok (.iconst 3, 1) := by decide +kernel
theorem dL_copy_34 : decode cL_copy 34 = .ok (.iload_n 1, 1) := by decide +kernel
theorem dL_copy_35 : decode cL_copy 35 = .ok (.imul, 1) := by decide +kernel
theorem dL_copy_36 : decode cL_copy 36 = .ok (.iload 7, 2) := by decide +kernel
theorem dL_copy_38 : decode cL_copy 38 = .ok (.iadd, 1) := by decide +kernel
theorem dL_copy_39 : decode cL_copy 39 = .ok (.aload 4, 2) := by decide +kernel
theorem dL_copy_41 : decode cL_copy 41 = .ok (.iconst 3, 1) := by decide +kernel
theorem dL_copy_42 : decode cL_copy 42 = .ok (.iload_n 0, 1) := by decide +kernel
theorem dL_copy_43 : decode cL_copy 43 = .ok (.imul, 1) := by decide +kernel
theorem dL_copy_44 : decode cL_copy 44 = .ok (.iload 7, 2) := by decide +kernel
theorem dL_copy_46 : decode cL_copy 46 = .ok (.iadd, 1) := by decide +kernel
theorem dL_copy_47 : decode cL_copy 47 = .ok (.iaload, 1) := by decide +kernel
theorem dL_copy_48 : decode cL_copy 48 = .ok (.iastore, 1) := by decide +kernel
theorem dL_copy_49 : decode cL_copy 49 = .ok (.aload 5, 2) := by decide +kernel
theorem dL_copy_51 : decode cL_copy 51 = .ok (.iconst 3, 1) := by decide +kernel
theorem dL_copy_52 : decode cL_copy 52 = .ok (.iload_n 1, 1) := by decide +kernel
theorem dL_copy_53 : decode cL_copy 53 = .ok (.imul, 1) := by decide +kernel
theorem dL_copy_54 : decode cL_copy 54 = .ok (.iload 7, 2) := by decide +kernel
theorem dL_copy_56 : decode cL_copy 56 = .ok (.iadd, 1) := by decide +kernel
theorem dL_copy_57 : decode cL_copy 57 = .ok (.aload 5, 2) := by decide +kernel
theorem dL_copy_59 : decode cL_copy 59 = .ok (.iconst 3, 1) := by decide +kernel
theorem dL_copy_60 : decode cL_copy 60 = .ok (.iload_n 0, 1) := by decide +kernel
theorem dL_copy_61 : decode cL_copy 61 = .ok (.imul, 1) := by decide +kernel
theorem dL_copy_62 : decode cL_copy 62 = .ok (.iload 7, 2) := by decide +kernel
theorem dL_copy_64 : decode cL_copy 64 = .ok (.iadd, 1) := by decide +kernel
theorem dL_copy_65 : decode cL_copy 65 = .ok (.iaload, 1) := by decide +kernel
theorem dL_copy_66 : decode cL_copy 66 = .ok (.iastore, 1) := by decide +kernel
theorem dL_copy_67 : decode cL_copy 67 = .ok (.aload 6, 2) := by decide +kernel
theorem dL_copy_69 : decode cL_copy 69 = .ok (.iconst 3, 1) := by decide +kernel
theorem dL_copy_70 : decode cL_copy 70 = .ok (.iload_n 1, 1) := by decide +kernel
theorem dL_copy_71 : decode cL_copy 71 = .ok (.imul, 1) := by decide +kernel
theorem dL_copy_72 : decode cL_copy 72 = .ok (.iload 7, 2) := by decide +kernel
theorem dL_copy_74 : decode cL_copy 74 = .ok (.iadd, 1) := by decide +kernel
theorem dL_copy_75 : decode cL_copy 75 = .ok (.aload 6, 2) := by decide +kernel
theorem dL_copy_77 : decode cL_copy 77 = .ok (.iconst 3, 1) := by decide +kernel
theorem dL_copy_78 : decode cL_copy 78 = .ok (.iload_n 0, 1) := by decide +kernel
theorem dL_copy_79 : decode cL_copy 79 = .ok (.imul, 1) := by decide +kernel
theorem dL_copy_80 : decode cL_copy 80 = .ok (.iload 7, 2) := by decide +kernel
theorem dL_copy_82 : decode cL_copy 82 = .ok (.iadd, 1) := by decide +kernel
theorem dL_copy_83 : decode cL_copy 83 = .ok (.iaload, 1) := by decide +kernel
theorem dL_copy_84 : decode cL_copy 84 = .ok (.iastore, 1) := by decide +kernel
theorem dL_copy_85 : decode cL_copy 85 = .ok (.iinc 7 1, 3) := by decide +kernel
theorem dL_copy_88 : decode cL_copy 88 = .ok (.goto (-79), 3) := by decide +kernel
theorem dL_copy_91 : decode cL_copy 91 = .ok (.return_, 1) := by decide +kernel
theorem dL_forget_0 : decode cL_forget 0 = .ok (.iconst 0, 1) := by decide +kernel
theorem dL_forget_1 : decode cL_forget 1 = .ok (.istore_n 2, 1) := by decide +kernel
theorem dL_forget_2 : decode cL_forget 2 = .ok (.iload_n 2, 1) := by decide +kernel
theorem dL_forget_3 : decode cL_forget 3 = .ok (.iconst 3, 1) := by decide +kernel
theorem dL_forget_4 : decode cL_forget 4 = .ok (.if_icmp .ge 17, 3) := by decide +kernel
theorem dL_forget_7 : decode cL_forget 7 = .ok (.aload_n 1, 1) := by decide +kernel
theorem dL_forget_8 : decode cL_forget 8 = .ok (.iconst 3, 1) := by decide +kernel
theorem dL_forget_9 : decode cL_forget 9 = .ok (.iload_n 0, 1) := by decide +kernel
theorem dL_forget_10 : decode cL_forget 10 = .ok (.imul, 1) := by decide +kernel
theorem dL_forget_11 : decode cL_forget 11 = .ok (.iload_n 2, 1) := by decide +kernel
theorem dL_forget_12 : decode cL_forget 12 = .ok (.iadd, 1) := by decide +kernel
theorem dL_forget_13 : decode cL_forget 13 = .ok (.iconst 0, 1) := by decide +kernel
theorem dL_forget_14 : decode cL_forget 14 = .ok (.iastore, 1) := by decide +kernel
theorem dL_forget_15 : decode cL_forget 15 = .ok (.iinc 2 1, 3) := by decide +kernel
theorem dL_forget_18 : decode cL_forget 18 = .ok (.goto (-16), 3) := by decide +kernel
theorem dL_forget_21 : decode cL_forget 21 = .ok (.return_, 1) := by decide +kernel
theorem dL_feet_0 : decode cL_feet 0 = .ok (.iconst 0, 1) := by decide +kernel
theorem dL_feet_1 : decode cL_feet 1 = .ok (.istore_n 2, 1) := by decide +kernel
theorem dL_feet_2 : decode cL_feet 2 = .ok (.iconst 0, 1) := by decide +kernel
theorem dL_feet_3 : decode cL_feet 3 = .ok (.istore_n 3, 1) := by decide +kernel
theorem dL_feet_4 : decode cL_feet 4 = .ok (.iload_n 3, 1) := by decide +kernel
theorem dL_feet_5 : decode cL_feet 5 = .ok (.iload_n 0, 1) := by decide +kernel
theorem dL_feet_6 : decode cL_feet 6 = .ok (.if_icmp .ge 15, 3) := by decide +kernel
theorem dL_feet_9 : decode cL_feet 9 = .ok (.iload_n 2, 1) := by decide +kernel
theorem dL_feet_10 : decode cL_feet 10 = .ok (.aload_n 1, 1) := by decide +kernel
theorem dL_feet_11 : decode cL_feet 11 = .ok (.iload_n 3, 1) := by decide +kernel
theorem dL_feet_12 : decode cL_feet 12 = .ok (.iaload, 1) := by decide +kernel
theorem dL_feet_13 : decode cL_feet 13 = .ok (.iadd, 1) := by decide +kernel
theorem dL_feet_14 : decode cL_feet 14 = .ok (.istore_n 2, 1) := by decide +kernel
theorem dL_feet_15 : decode cL_feet 15 = .ok (.iinc 3 1, 3) := by decide +kernel
theorem dL_feet_18 : decode cL_feet 18 = .ok (.goto (-14), 3) := by decide +kernel
theorem dL_feet_21 : decode cL_feet 21 = .ok (.iload_n 2, 1) := by decide +kernel
theorem dL_feet_22 : decode cL_feet 22 = .ok (.ireturn, 1) := by decide +kernel
theorem dL_corrects_0 : decode cL_corrects 0 = .ok (.iconst 0, 1) := by decide +kernel
theorem dL_corrects_1 : decode cL_corrects 1 = .ok (.istore 4, 2) := by decide +kernel
theorem dL_corrects_3 : decode cL_corrects 3 = .ok (.iconst 0, 1) := by decide +kernel
theorem dL_corrects_4 : decode cL_corrects 4 = .ok (.istore 5, 2) := by decide +kernel
theorem dL_corrects_6 : decode cL_corrects 6 = .ok (.iload 5, 2) := by decide +kernel
theorem dL_corrects_8 : decode cL_corrects 8 = .ok (.iconst 3, 1) := by decide +kernel
theorem dL_corrects_9 : decode cL_corrects 9 = .ok (.if_icmp .ge 95, 3) := by decide +kernel
theorem dL_corrects_12 : decode cL_corrects 12 = .ok (.aload_n 3, 1) := by decide +kernel
theorem dL_corrects_13 : decode cL_corrects 13 = .ok (.iconst 3, 1) := by decide +kernel
theorem dL_corrects_14 : decode cL_corrects 14 = .ok (.iload_n 0, 1) := by decide +kernel
theorem dL_corrects_15 : decode cL_corrects 15 = .ok (.imul, 1) := by decide +kernel
theorem dL_corrects_16 : decode cL_corrects 16 = .ok (.iload 5, 2) := by decide +kernel
theorem dL_corrects_18 : decode cL_corrects 18 = .ok (.iadd, 1) := by decide +kernel
theorem dL_corrects_19 : decode cL_corrects 19 = .ok (.iaload, 1) := by decide +kernel
theorem dL_corrects_20 : decode cL_corrects 20 = .ok (.sipush 1000, 3) := by decide +kernel
theorem dL_corrects_23 : decode cL_corrects 23 = .ok (.isub, 1) := by decide +kernel
theorem dL_corrects_24 : decode cL_corrects 24 = .ok (.istore 6, 2) := by decide +kernel
theorem dL_corrects_26 : decode cL_corrects 26 = .ok (.aload_n 2, 1) := by decide +kernel
theorem dL_corrects_27 : decode cL_corrects 27 = .ok (.iconst 3, 1) := by decide +kernel
theorem dL_corrects_28 : decode cL_corrects 28 = .ok (.iload_n 0, 1) := by decide +kernel
theorem dL_corrects_29 : decode cL_corrects 29 = .ok (.imul, 1) := by decide +kernel
theorem dL_corrects_30 : decode cL_corrects 30 = .ok (.iload 5, 2) := by decide +kernel
theorem dL_corrects_32 : decode cL_corrects 32 = .ok (.iadd, 1) := by decide +kernel
theorem dL_corrects_33 : decode cL_corrects 33 = .ok (.iaload, 1) := by decide +kernel
theorem dL_corrects_34 : decode cL_corrects 34 = .ok (.istore 7, 2) := by decide +kernel
theorem dL_corrects_36 : decode cL_corrects 36 = .ok (.iload 7, 2) := by decide +kernel
theorem dL_corrects_38 : decode cL_corrects 38 = .ok (.iload 6, 2) := by decide +kernel
theorem dL_corrects_40 : decode cL_corrects 40 = .ok (.isub, 1) := by decide +kernel
theorem dL_corrects_41 : decode cL_corrects 41 = .ok (.iload 6, 2) := by decide +kernel
theorem dL_corrects_43 : decode cL_corrects 43 = .ok (.aload_n 1, 1) := by decide +kernel
theorem dL_corrects_44 : decode cL_corrects 44 = .ok (.iconst 0, 1) := by decide +kernel
theorem dL_corrects_45 : decode cL_corrects 45 = .ok (.iaload, 1) := by decide +kernel
theorem dL_corrects_46 : decode cL_corrects 46 = .ok (.irem, 1) := by decide +kernel
theorem dL_corrects_47 : decode cL_corrects 47 = .ok (.iadd, 1) := by decide +kernel
theorem dL_corrects_48 : decode cL_corrects 48 = .ok (.istore 8, 2) := by decide +kernel
theorem dL_corrects_50 : decode cL_corrects 50 = .ok (.iload 8, 2) := by decide +kernel
theorem dL_corrects_52 : decode cL_corrects 52 = .ok (.ifCond .ge 7, 3) := by decide +kernel
theorem dL_corrects_55 : decode cL_corrects 55 = .ok (.iconst 0, 1) := by decide +kernel
theorem dL_corrects_56 : decode cL_corrects 56 = .ok (.goto 17, 3) := by decide +kernel
theorem dL_corrects_59 : decode cL_corrects 59 = .ok (.iload 8, 2) := by decide +kernel
theorem dL_corrects_61 : decode cL_corrects 61 = .ok (.bipush 50, 2) := by decide +kernel
theorem dL_corrects_63 : decode cL_corrects 63 = .ok (.if_icmp .le 8, 3) := by decide +kernel
theorem dL_corrects_66 : decode cL_corrects 66 = .ok (.bipush 50, 2) := by decide +kernel
theorem dL_corrects_68 : decode cL_corrects 68 = .ok (.goto 5, 3) := by decide +kernel
theorem dL_corrects_71 : decode cL_corrects 71 = .ok (.iload 8, 2) := by decide +kernel
theorem dL_corrects_73 : decode cL_corrects 73 = .ok (.istore 8, 2) := by decide +kernel
theorem dL_corrects_75 : decode cL_corrects 75 = .ok (.aload_n 2, 1) := by decide +kernel
theorem dL_corrects_76 : decode cL_corrects 76 = .ok (.iconst 3, 1) := by decide +kernel
theorem dL_corrects_77 : decode cL_corrects 77 = .ok (.iload_n 0, 1) := by decide +kernel
theorem dL_corrects_78 : decode cL_corrects 78 = .ok (.imul, 1) := by decide +kernel
theorem dL_corrects_79 : decode cL_corrects 79 = .ok (.iload 5, 2) := by decide +kernel
theorem dL_corrects_81 : decode cL_corrects 81 = .ok (.iadd, 1) := by decide +kernel
theorem dL_corrects_82 : decode cL_corrects 82 = .ok (.iload 8, 2) := by decide +kernel
theorem dL_corrects_84 : decode cL_corrects 84 = .ok (.iastore, 1) := by decide +kernel
theorem dL_corrects_85 : decode cL_corrects 85 = .ok (.iload 4, 2) := by decide +kernel
theorem dL_corrects_87 : decode cL_corrects 87 = .ok (.iload 8, 2) := by decide +kernel
theorem dL_corrects_89 : decode cL_corrects 89 = .ok (.iload 7, 2) := by decide +kernel
theorem dL_corrects_91 : decode cL_corrects 91 = .ok (.isub, 1) := by decide +kernel
theorem dL_corrects_92 : decode cL_corrects 92 = .ok (.invokestatic 16, 3) := by decide +kernel
theorem dL_corrects_95 : decode cL_corrects 95 = .ok (.iadd, 1) := by decide +kernel
theorem dL_corrects_96 : decode cL_corrects 96 = .ok (.istore 4, 2) := by decide +kernel
theorem dL_corrects_98 : decode cL_corrects 98 = .ok (.iinc 5 1, 3) := by decide +kernel
theorem dL_corrects_101 : decode cL_corrects 101 = .ok (.goto (-95), 3) := by decide +kernel
theorem dL_corrects_104 : decode cL_corrects 104 = .ok (.iload_n 0, 1) := by decide +kernel
theorem dL_corrects_105 : decode cL_corrects 105 = .ok (.aload_n 3, 1) := by decide +kernel
theorem dL_corrects_106 : decode cL_corrects 106 = .ok (.invokestatic 24, 3) := by decide +kernel
theorem dL_corrects_109 : decode cL_corrects 109 = .ok (.aload_n 1, 1) := by decide +kernel
theorem dL_corrects_110 : decode cL_corrects 110 = .ok (.bipush 6, 2) := by decide +kernel
theorem dL_corrects_112 : decode cL_corrects 112 = .ok (.dup2, 1) := by decide +kernel
theorem dL_corrects_113 : decode cL_corrects 113 = .ok (.iaload, 1) := by decide +kernel
theorem dL_corrects_114 : decode cL_corrects 114 = .ok (.iload 4, 2) := by decide +kernel
theorem dL_corrects_116 : decode cL_corrects 116 = .ok (.iadd, 1) := by decide +kernel
theorem dL_corrects_117 : decode cL_corrects 117 = .ok (.iastore, 1) := by decide +kernel
theorem dL_corrects_118 : decode cL_corrects 118 = .ok (.iload 4, 2) := by decide +kernel
theorem dL_corrects_120 : decode cL_corrects 120 = .ok (.ireturn, 1) := by decide +kernel
theorem dL_print_0 : decode cL_print 0 = .ok (.aload_n 0, 1) := by decide +kernel
theorem dL_print_1 : decode cL_print 1 = .ok (.iconst 4, 1) := by decide +kernel
theorem dL_print_2 : decode cL_print 2 = .ok (.iaload, 1) := by decide +kernel
theorem dL_print_3 : decode cL_print 3 = .ok (.aload_n 1, 1) := by decide +kernel
theorem dL_print_4 : decode cL_print 4 = .ok (.invokestatic 28, 3) := by decide +kernel
theorem dL_print_7 : decode cL_print 7 = .ok (.bipush 99, 2) := by decide +kernel
theorem dL_print_9 : decode cL_print 9 = .ok (.iadd, 1) := by decide +kernel
theorem dL_print_10 : decode cL_print 10 = .ok (.bipush 100, 2) := by decide +kernel
theorem dL_print_12 : decode cL_print 12 = .ok (.idiv, 1) := by decide +kernel
theorem dL_print_13 : decode cL_print 13 = .ok (.istore 6, 2) := by decide +kernel
theorem dL_print_15 : decode cL_print 15 = .ok (.iconst 0, 1) := by decide +kernel
theorem dL_print_16 : decode cL_print 16 = .ok (.istore 7, 2) := by decide +kernel
theorem dL_print_18 : decode cL_print 18 = .ok (.iconst 0, 1) := by decide +kernel
theorem dL_print_19 : decode cL_print 19 = .ok (.istore 8, 2) := by decide +kernel
theorem dL_print_21 : decode cL_print 21 = .ok (.iload 8, 2) := by decide +kernel
theorem dL_print_23 : decode cL_print 23 = .ok (.iconst 3, 1) := by decide +kernel
theorem dL_print_24 : decode cL_print 24 = .ok (.if_icmp .ge 28, 3) := by decide +kernel
theorem dL_print_27 : decode cL_print 27 = .ok (.aload_n 0, 1) := by decide +kernel
theorem dL_print_28 : decode cL_print 28 = .ok (.bipush 7, 2) := by decide +kernel
theorem dL_print_30 : decode cL_print 30 = .ok (.iload 8, 2) := by decide +kernel
theorem dL_print_32 : decode cL_print 32 = .ok (.iadd, 1) := by decide +kernel
theorem dL_print_33 : decode cL_print 33 = .ok (.iaload, 1) := by decide +kernel
theorem dL_print_34 : decode cL_print 34 = .ok (.iload 6, 2) := by decide +kernel
theorem dL_print_36 : decode cL_print 36 = .ok (.iadd, 1) := by decide +kernel
theorem dL_print_37 : decode cL_print 37 = .ok (.sipush 999, 3) := by decide +kernel
theorem dL_print_40 : decode cL_print 40 = .ok (.if_icmp .le 6, 3) := by decide +kernel
theorem dL_print_43 : decode cL_print 43 = .ok (.bipush (-5), 2) := by decide +kernel
theorem dL_print_45 : decode cL_print 45 = .ok (.ireturn, 1) := by decide +kernel
theorem dL_print_46 : decode cL_print 46 = .ok (.iinc 8 1, 3) := by decide +kernel
theorem dL_print_49 : decode cL_print 49 = .ok (.goto (-28), 3) := by decide +kernel
theorem dL_print_52 : decode cL_print 52 = .ok (.iconst 0, 1) := by decide +kernel
theorem dL_print_53 : decode cL_print 53 = .ok (.istore 8, 2) := by decide +kernel
theorem dL_print_55 : decode cL_print 55 = .ok (.iload 8, 2) := by decide +kernel
theorem dL_print_57 : decode cL_print 57 = .ok (.aload_n 0, 1) := by decide +kernel
theorem dL_print_58 : decode cL_print 58 = .ok (.iconst 4, 1) := by decide +kernel
theorem dL_print_59 : decode cL_print 59 = .ok (.iaload, 1) := by decide +kernel
theorem dL_print_60 : decode cL_print 60 = .ok (.if_icmp .ge 71, 3) := by decide +kernel
theorem dL_print_63 : decode cL_print 63 = .ok (.iconst 0, 1) := by decide +kernel
theorem dL_print_64 : decode cL_print 64 = .ok (.istore 9, 2) := by decide +kernel
theorem dL_print_66 : decode cL_print 66 = .ok (.iload 9, 2) := by decide +kernel
theorem dL_print_68 : decode cL_print 68 = .ok (.iconst 3, 1) := by decide +kernel
theorem dL_print_69 : decode cL_print 69 = .ok (.if_icmp .ge 35, 3) := by decide +kernel
theorem dL_print_72 : decode cL_print 72 = .ok (.aload 5, 2) := by decide +kernel
theorem dL_print_74 : decode cL_print 74 = .ok (.iconst 3, 1) := by decide +kernel
theorem dL_print_75 : decode cL_print 75 = .ok (.iload 8, 2) := by decide +kernel
theorem dL_print_77 : decode cL_print 77 = .ok (.imul, 1) := by decide +kernel
theorem dL_print_78 : decode cL_print 78 = .ok (.iload 9, 2) := by decide +kernel
theorem dL_print_80 : decode cL_print 80 = .ok (.iadd, 1) := by decide +kernel
theorem dL_print_81 : decode cL_print 81 = .ok (.sipush 1000, 3) := by decide +kernel
theorem dL_print_84 : decode cL_print 84 = .ok (.iload 8, 2) := by decide +kernel
theorem dL_print_86 : decode cL_print 86 = .ok (.iload 9, 2) := by decide +kernel
theorem dL_print_88 : decode cL_print 88 = .ok (.aload_n 0, 1) := by decide +kernel
theorem dL_print_89 : decode cL_print 89 = .ok (.aload_n 2, 1) := by decide +kernel
theorem dL_print_90 : decode cL_print 90 = .ok (.aload_n 3, 1) := by decide +kernel
theorem dL_print_91 : decode cL_print 91 = .ok (.aload 4, 2) := by decide +kernel
theorem dL_print_93 : decode cL_print 93 = .ok (.invokestatic 32, 3) := by decide +kernel
theorem dL_print_96 : decode cL_print 96 = .ok (.iadd, 1) := by decide +kernel
theorem dL_print_97 : decode cL_print 97 = .ok (.iastore, 1) := by decide +kernel
theorem dL_print_98 : decode cL_print 98 = .ok (.iinc 9 1, 3) := by decide +kernel
theorem dL_print_101 : decode cL_print 101 = .ok (.goto (-35), 3) := by decide +kernel
theorem dL_print_104 : decode cL_print 104 = .ok (.iload 7, 2) := by decide +kernel
theorem dL_print_106 : decode cL_print 106 = .ok (.iload 8, 2) := by decide +kernel
theorem dL_print_108 : decode cL_print 108 = .ok (.aload_n 0, 1) := by decide +kernel
theorem dL_print_109 : decode cL_print 109 = .ok (.aload 5, 2) := by decide +kernel
theorem dL_print_111 : decode cL_print 111 = .ok (.invokestatic 36, 3) := by decide +kernel
theorem dL_print_114 : decode cL_print 114 = .ok (.ifCond .eq 7, 3) := by decide +kernel
theorem dL_print_117 : decode cL_print 117 = .ok (.iconst 1, 1) := by decide +kernel
theorem dL_print_118 : decode cL_print 118 = .ok (.goto 4, 3) := by decide +kernel
theorem dL_print_121 : decode cL_print 121 = .ok (.iconst 0, 1) := by decide +kernel
theorem dL_print_122 : decode cL_print 122 = .ok (.iadd, 1) := by decide +kernel
theorem dL_print_123 : decode cL_print 123 = .ok (.istore 7, 2) := by decide +kernel
theorem dL_print_125 : decode cL_print 125 = .ok (.iinc 8 1, 3) := by decide +kernel
theorem dL_print_128 : decode cL_print 128 = .ok (.goto (-73), 3) := by decide +kernel
theorem dL_print_131 : decode cL_print 131 = .ok (.iconst 0, 1) := by decide +kernel
theorem dL_print_132 : decode cL_print 132 = .ok (.istore 8, 2) := by decide +kernel
theorem dL_print_134 : decode cL_print 134 = .ok (.iload 8, 2) := by decide +kernel
theorem dL_print_136 : decode cL_print 136 = .ok (.iconst 3, 1) := by decide +kernel
theorem dL_print_137 : decode cL_print 137 = .ok (.if_icmp .ge 21, 3) := by decide +kernel
theorem dL_print_140 : decode cL_print 140 = .ok (.aload_n 0, 1) := by decide +kernel
theorem dL_print_141 : decode cL_print 141 = .ok (.bipush 7, 2) := by decide +kernel
theorem dL_print_143 : decode cL_print 143 = .ok (.iload 8, 2) := by decide +kernel
theorem dL_print_145 : decode cL_print 145 = .ok (.iadd, 1) := by decide +kernel
theorem dL_print_146 : decode cL_print 146 = .ok (.dup2, 1) := by decide +kernel
theorem dL_print_147 : decode cL_print 147 = .ok (.iaload, 1) := by decide +kernel
theorem dL_print_148 : decode cL_print 148 = .ok (.iload 6, 2) := by decide +kernel
theorem dL_print_150 : decode cL_print 150 = .ok (.iadd, 1) := by decide +kernel
theorem dL_print_151 : decode cL_print 151 = .ok (.iastore, 1) := by decide +kernel
theorem dL_print_152 : decode cL_print 152 = .ok (.iinc 8 1, 3) := by decide +kernel
theorem dL_print_155 : decode cL_print 155 = .ok (.goto (-21), 3) := by decide +kernel
theorem dL_print_158 : decode cL_print 158 = .ok (.aload_n 0, 1) := by decide +kernel
theorem dL_print_159 : decode cL_print 159 = .ok (.iconst 5, 1) := by decide +kernel
theorem dL_print_160 : decode cL_print 160 = .ok (.dup2, 1) := by decide +kernel
theorem dL_print_161 : decode cL_print 161 = .ok (.iaload, 1) := by decide +kernel
theorem dL_print_162 : decode cL_print 162 = .ok (.iconst 1, 1) := by decide +kernel
theorem dL_print_163 : decode cL_print 163 = .ok (.iadd, 1) := by decide +kernel
theorem dL_print_164 : decode cL_print 164 = .ok (.iastore, 1) := by decide +kernel
theorem dL_print_165 : decode cL_print 165 = .ok (.aload_n 0, 1) := by decide +kernel
theorem dL_print_166 : decode cL_print 166 = .ok (.iconst 4, 1) := by decide +kernel
theorem dL_print_167 : decode cL_print 167 = .ok (.iaload, 1) := by decide +kernel
theorem dL_print_168 : decode cL_print 168 = .ok (.ifCond .ne 8, 3) := by decide +kernel
theorem dL_print_171 : decode cL_print 171 = .ok (.bipush (-5), 2) := by decide +kernel
theorem dL_print_173 : decode cL_print 173 = .ok (.goto 5, 3) := by decide +kernel
theorem dL_print_176 : decode cL_print 176 = .ok (.iload 7, 2) := by decide +kernel
theorem dL_print_178 : decode cL_print 178 = .ok (.ireturn, 1) := by decide +kernel
theorem dL_call_0 : decode cL_call 0 = .ok (.iload_n 1, 1) := by decide +kernel
theorem dL_call_1 : decode cL_call 1 = .ok (.tableswitch 226 0 12 #[67, 112, 126, 143, 156, 171, 177, 182, 188, 193, 198, 214, 220], 67) := by decide +kernel
theorem dL_call_68 : decode cL_call 68 = .ok (.aload_n 0, 1) := by decide +kernel
theorem dL_call_69 : decode cL_call 69 = .ok (.iload_n 2, 1) := by decide +kernel
theorem dL_call_70 : decode cL_call 70 = .ok (.iconst 1, 1) := by decide +kernel
theorem dL_call_71 : decode cL_call 71 = .ok (.iload 4, 2) := by decide +kernel
theorem dL_call_73 : decode cL_call 73 = .ok (.bipush 99, 2) := by decide +kernel
theorem dL_call_75 : decode cL_call 75 = .ok (.invokestatic 40, 3) := by decide +kernel
theorem dL_call_78 : decode cL_call 78 = .ok (.iadd, 1) := by decide +kernel
theorem dL_call_79 : decode cL_call 79 = .ok (.iload 4, 2) := by decide +kernel
theorem dL_call_81 : decode cL_call 81 = .ok (.bipush 7, 2) := by decide +kernel
theorem dL_call_83 : decode cL_call 83 = .ok (.ishr, 1) := by decide +kernel
theorem dL_call_84 : decode cL_call 84 = .ok (.bipush 51, 2) := by decide +kernel
theorem dL_call_86 : decode cL_call 86 = .ok (.invokestatic 40, 3) := by decide +kernel
theorem dL_call_89 : decode cL_call 89 = .ok (.iload 4, 2) := by decide +kernel
theorem dL_call_91 : decode cL_call 91 = .ok (.bipush 9, 2) := by decide +kernel
theorem dL_call_93 : decode cL_call 93 = .ok (.ishr, 1) := by decide +kernel
theorem dL_call_94 : decode cL_call 94 = .ok (.bipush 51, 2) := by decide +kernel
theorem dL_call_96 : decode cL_call 96 = .ok (.invokestatic 40, 3) := by decide +kernel
theorem dL_call_99 : decode cL_call 99 = .ok (.iload 4, 2) := by decide +kernel
theorem dL_call_101 : decode cL_call 101 = .ok (.bipush 11, 2) := by decide +kernel
theorem dL_call_103 : decode cL_call 103 = .ok (.ishr, 1) := by decide +kernel
theorem dL_call_104 : decode cL_call 104 = .ok (.bipush 51, 2) := by decide +kernel
theorem dL_call_106 : decode cL_call 106 = .ok (.invokestatic 40, 3) := by decide +kernel
theorem dL_call_109 : decode cL_call 109 = .ok (.invokevirtual 44, 3) := by decide +kernel
theorem dL_call_112 : decode cL_call 112 = .ok (.ireturn, 1) := by decide +kernel
theorem dL_call_113 : decode cL_call 113 = .ok (.aload_n 0, 1) := by decide +kernel
theorem dL_call_114 : decode cL_call 114 = .ok (.iload_n 2, 1) := by decide +kernel
theorem dL_call_115 : decode cL_call 115 = .ok (.iload_n 3, 1) := by decide +kernel
theorem dL_call_116 : decode cL_call 116 = .ok (.iload 4, 2) := by decide +kernel
theorem dL_call_118 : decode cL_call 118 = .ok (.bipush 51, 2) := by decide +kernel
theorem dL_call_120 : decode cL_call 120 = .ok (.invokestatic 40, 3) := by decide +kernel
theorem dL_call_123 : decode cL_call 123 = .ok (.invokevirtual 50, 3) := by decide +kernel
theorem dL_call_126 : decode cL_call 126 = .ok (.ireturn, 1) := by decide +kernel
theorem dL_call_127 : decode cL_call 127 = .ok (.aload_n 0, 1) := by decide +kernel
theorem dL_call_128 : decode cL_call 128 = .ok (.iload_n 2, 1) := by decide +kernel
theorem dL_call_129 : decode cL_call 129 = .ok (.iload_n 3, 1) := by decide +kernel
theorem dL_call_130 : decode cL_call 130 = .ok (.iload 4, 2) := by decide +kernel
theorem dL_call_132 : decode cL_call 132 = .ok (.bipush 21, 2) := by decide +kernel
theorem dL_call_134 : decode cL_call 134 = .ok (.invokestatic 40, 3) := by decide +kernel
theorem dL_call_137 : decode cL_call 137 = .ok (.bipush 10, 2) := by decide +kernel
theorem dL_call_139 : decode cL_call 139 = .ok (.isub, 1) := by decide +kernel
theorem dL_call_140 : decode cL_call 140 = .ok (.invokevirtual 54, 3) := by decide +kernel
theorem dL_call_143 : decode cL_call 143 = .ok (.ireturn, 1) := by decide +kernel
theorem dL_call_144 : decode cL_call 144 = .ok (.aload_n 0, 1) := by decide +kernel
theorem dL_call_145 : decode cL_call 145 = .ok (.iload_n 2, 1) := by decide +kernel
theorem dL_call_146 : decode cL_call 146 = .ok (.iload 4, 2) := by decide +kernel
theorem dL_call_148 : decode cL_call 148 = .ok (.bipush 21, 2) := by decide +kernel
theorem dL_call_150 : decode cL_call 150 = .ok (.invokestatic 40, 3) := by decide +kernel
theorem dL_call_153 : decode cL_call 153 = .ok (.invokevirtual 57, 3) := by decide +kernel
theorem dL_call_156 : decode cL_call 156 = .ok (.ireturn, 1) := by decide +kernel
theorem dL_call_157 : decode cL_call 157 = .ok (.aload_n 0, 1) := by decide +kernel
theorem dL_call_158 : decode cL_call 158 = .ok (.iload_n 2, 1) := by decide +kernel
theorem dL_call_159 : decode cL_call 159 = .ok (.iconst 1, 1) := by decide +kernel
theorem dL_call_160 : decode cL_call 160 = .ok (.iload 4, 2) := by decide +kernel
theorem dL_call_162 : decode cL_call 162 = .ok (.bipush 98, 2) := by decide +kernel
theorem dL_call_164 : decode cL_call 164 = .ok (.invokestatic 40, 3) := by decide +kernel
theorem dL_call_167 : decode cL_call 167 = .ok (.iadd, 1) := by decide +kernel
theorem dL_call_168 : decode cL_call 168 = .ok (.invokevirtual 60, 3) := by decide +kernel
theorem dL_call_171 : decode cL_call 171 = .ok (.ireturn, 1) := by decide +kernel
theorem dL_call_172 : decode cL_call 172 = .ok (.aload_n 0, 1) := by decide +kernel
theorem dL_call_173 : decode cL_call 173 = .ok (.iload_n 2, 1) := by decide +kernel
theorem dL_call_174 : decode cL_call 174 = .ok (.invokevirtual 63, 3) := by decide +kernel
theorem dL_call_177 : decode cL_call 177 = .ok (.ireturn, 1) := by decide +kernel
theorem dL_call_178 : decode cL_call 178 = .ok (.aload_n 0, 1) := by decide +kernel
theorem dL_call_179 : decode cL_call 179 = .ok (.invokevirtual 66, 3) := by decide +kernel
theorem dL_call_182 : decode cL_call 182 = .ok (.ireturn, 1) := by decide +kernel
theorem dL_call_183 : decode cL_call 183 = .ok (.aload_n 0, 1) := by decide +kernel
theorem dL_call_184 : decode cL_call 184 = .ok (.iload_n 2, 1) := by decide +kernel
theorem dL_call_185 : decode cL_call 185 = .ok (.invokevirtual 70, 3) := by decide +kernel
theorem dL_call_188 : decode cL_call 188 = .ok (.ireturn, 1) := by decide +kernel
theorem dL_call_189 : decode cL_call 189 = .ok (.aload_n 0, 1) := by decide +kernel
theorem dL_call_190 : decode cL_call 190 = .ok (.invokevirtual 73, 3) := by decide +kernel
theorem dL_call_193 : decode cL_call 193 = .ok (.ireturn, 1) := by decide +kernel
theorem dL_call_194 : decode cL_call 194 = .ok (.aload_n 0, 1) := by decide +kernel
theorem dL_call_195 : decode cL_call 195 = .ok (.invokevirtual 76, 3) := by decide +kernel
theorem dL_call_198 : decode cL_call 198 = .ok (.ireturn, 1) := by decide +kernel
theorem dL_call_199 : decode cL_call 199 = .ok (.aload_n 0, 1) := by decide +kernel
theorem dL_call_200 : decode cL_call 200 = .ok (.iload_n 3, 1) := by decide +kernel
theorem dL_call_201 : decode cL_call 201 = .ok (.iload 4, 2) := by decide +kernel
theorem dL_call_203 : decode cL_call 203 = .ok (.bipush 41, 2) := by decide +kernel
theorem dL_call_205 : decode cL_call 205 = .ok (.invokestatic 40, 3) := by decide +kernel
theorem dL_call_208 : decode cL_call 208 = .ok (.bipush 20, 2) := by decide +kernel
theorem dL_call_210 : decode cL_call 210 = .ok (.isub, 1) := by decide +kernel
theorem dL_call_211 : decode cL_call 211 = .ok (.invokevirtual 79, 3) := by decide +kernel
theorem dL_call_214 : decode cL_call 214 = .ok (.ireturn, 1) := by decide +kernel
theorem dL_call_215 : decode cL_call 215 = .ok (.aload_n 0, 1) := by decide +kernel
theorem dL_call_216 : decode cL_call 216 = .ok (.iload_n 3, 1) := by decide +kernel
theorem dL_call_217 : decode cL_call 217 = .ok (.invokevirtual 82, 3) := by decide +kernel
theorem dL_call_220 : decode cL_call 220 = .ok (.ireturn, 1) := by decide +kernel
theorem dL_call_221 : decode cL_call 221 = .ok (.aload_n 0, 1) := by decide +kernel
theorem dL_call_222 : decode cL_call 222 = .ok (.iload_n 2, 1) := by decide +kernel
theorem dL_call_223 : decode cL_call 223 = .ok (.invokevirtual 85, 3) := by decide +kernel
theorem dL_call_226 : decode cL_call 226 = .ok (.ireturn, 1) := by decide +kernel
theorem dL_call_227 : decode cL_call 227 = .ok (.aload_n 0, 1) := by decide +kernel
theorem dL_call_228 : decode cL_call 228 = .ok (.iload_n 2, 1) := by decide +kernel
theorem dL_call_229 : decode cL_call 229 = .ok (.iconst 4, 1) := by decide +kernel
theorem dL_call_230 : decode cL_call 230 = .ok (.invokestatic 40, 3) := by decide +kernel
theorem dL_call_233 : decode cL_call 233 = .ok (.iconst 1, 1) := by decide +kernel
theorem dL_call_234 : decode cL_call 234 = .ok (.iload 4, 2) := by decide +kernel
theorem dL_call_236 : decode cL_call 236 = .ok (.iconst 5, 1) := by decide +kernel
theorem dL_call_237 : decode cL_call 237 = .ok (.invokestatic 40, 3) := by decide +kernel
theorem dL_call_240 : decode cL_call 240 = .ok (.iadd, 1) := by decide +kernel
theorem dL_call_241 : decode cL_call 241 = .ok (.invokevirtual 88, 3) := by decide +kernel
theorem dL_call_244 : decode cL_call 244 = .ok (.ireturn, 1) := by decide +kernel
theorem dL_ofShot_0 : decode cL_ofShot 0 = .ok (.iload_n 0, 1) := by decide +kernel
theorem dL_ofShot_1 : decode cL_ofShot 1 = .ok (.iconst 1, 1) := by decide +kernel
theorem dL_ofShot_2 : decode cL_ofShot 2 = .ok (.if_icmp .ne 14, 3) := by decide +kernel
theorem dL_ofShot_5 : decode cL_ofShot 5 = .ok (.aload 8, 2) := by decide +kernel
theorem dL_ofShot_7 : decode cL_ofShot 7 = .ok (.iconst 3, 1) := by decide +kernel
theorem dL_ofShot_8 : decode cL_ofShot 8 = .ok (.iload_n 1, 1) := by decide +kernel
theorem dL_ofShot_9 : decode cL_ofShot 9 = .ok (.imul, 1) := by decide +kernel
theorem dL_ofShot_10 : decode cL_ofShot 10 = .ok (.iload_n 2, 1) := by decide +kernel
theorem dL_ofShot_11 : decode cL_ofShot 11 = .ok (.iadd, 1) := by decide +kernel
theorem dL_ofShot_12 : decode cL_ofShot 12 = .ok (.iaload, 1) := by decide +kernel
theorem dL_ofShot_13 : decode cL_ofShot 13 = .ok (.goto 23, 3) := by decide +kernel
theorem dL_ofShot_16 : decode cL_ofShot 16 = .ok (.iload_n 0, 1) := by decide +kernel
theorem dL_ofShot_17 : decode cL_ofShot 17 = .ok (.iconst 2, 1) := by decide +kernel
theorem dL_ofShot_18 : decode cL_ofShot 18 = .ok (.if_icmp .ne 17, 3) := by decide +kernel
theorem dL_ofShot_21 : decode cL_ofShot 21 = .ok (.aload 7, 2) := by decide +kernel
theorem dL_ofShot_23 : decode cL_ofShot 23 = .ok (.iconst 3, 1) := by decide +kernel
theorem dL_ofShot_24 : decode cL_ofShot 24 = .ok (.iload_n 1, 1) := by decide +kernel
theorem dL_ofShot_25 : decode cL_ofShot 25 = .ok (.imul, 1) := by decide +kernel
theorem dL_ofShot_26 : decode cL_ofShot 26 = .ok (.iload_n 2, 1) := by decide +kernel
theorem dL_ofShot_27 : decode cL_ofShot 27 = .ok (.iadd, 1) := by decide +kernel
theorem dL_ofShot_28 : decode cL_ofShot 28 = .ok (.iaload, 1) := by decide +kernel
theorem dL_ofShot_29 : decode cL_ofShot 29 = .ok (.bipush 10, 2) := by decide +kernel
theorem dL_ofShot_31 : decode cL_ofShot 31 = .ok (.iadd, 1) := by decide +kernel
theorem dL_ofShot_32 : decode cL_ofShot 32 = .ok (.goto 4, 3) := by decide +kernel
theorem dL_ofShot_35 : decode cL_ofShot 35 = .ok (.iconst 0, 1) := by decide +kernel
theorem dL_ofShot_36 : decode cL_ofShot 36 = .ok (.istore 10, 2) := by decide +kernel
theorem dL_ofShot_38 : decode cL_ofShot 38 = .ok (.iload_n 0, 1) := by decide +kernel
theorem dL_ofShot_39 : decode cL_ofShot 39 = .ok (.iconst 1, 1) := by decide +kernel
theorem dL_ofShot_40 : decode cL_ofShot 40 = .ok (.if_icmp .ne 20, 3) := by decide +kernel
theorem dL_ofShot_43 : decode cL_ofShot 43 = .ok (.aload 8, 2) := by decide +kernel
theorem dL_ofShot_45 : decode cL_ofShot 45 = .ok (.iconst 3, 1) := by decide +kernel
theorem dL_ofShot_46 : decode cL_ofShot 46 = .ok (.iload_n 1, 1) := by decide +kernel
theorem dL_ofShot_47 : decode cL_ofShot 47 = .ok (.imul, 1) := by decide +kernel
theorem dL_ofShot_48 : decode cL_ofShot 48 = .ok (.iload_n 2, 1) := by decide +kernel
theorem dL_ofShot_49 : decode cL_ofShot 49 = .ok (.iadd, 1) := by decide +kernel
theorem dL_ofShot_50 : decode cL_ofShot 50 = .ok (.iload_n 3, 1) := by decide +kernel
theorem dL_ofShot_51 : decode cL_ofShot 51 = .ok (.bipush 51, 2) := by decide +kernel
theorem dL_ofShot_53 : decode cL_ofShot 53 = .ok (.invokestatic 40, 3) := by decide +kernel
theorem dL_ofShot_56 : decode cL_ofShot 56 = .ok (.iastore, 1) := by decide +kernel
theorem dL_ofShot_57 : decode cL_ofShot 57 = .ok (.iload 10, 2) := by decide +kernel
theorem dL_ofShot_59 : decode cL_ofShot 59 = .ok (.ireturn, 1) := by decide +kernel
theorem dL_ofShot_60 : decode cL_ofShot 60 = .ok (.iload_n 0, 1) := by decide +kernel
theorem dL_ofShot_61 : decode cL_ofShot 61 = .ok (.iconst 2, 1) := by decide +kernel
theorem dL_ofShot_62 : decode cL_ofShot 62 = .ok (.if_icmp .ne 23, 3) := by decide +kernel
theorem dL_ofShot_65 : decode cL_ofShot 65 = .ok (.aload 7, 2) := by decide +kernel
theorem dL_ofShot_67 : decode cL_ofShot 67 = .ok (.iconst 3, 1) := by decide +kernel
theorem dL_ofShot_68 : decode cL_ofShot 68 = .ok (.iload_n 1, 1) := by decide +kernel
theorem dL_ofShot_69 : decode cL_ofShot 69 = .ok (.imul, 1) := by decide +kernel
theorem dL_ofShot_70 : decode cL_ofShot 70 = .ok (.iload_n 2, 1) := by decide +kernel
theorem dL_ofShot_71 : decode cL_ofShot 71 = .ok (.iadd, 1) := by decide +kernel
theorem dL_ofShot_72 : decode cL_ofShot 72 = .ok (.iload_n 3, 1) := by decide +kernel
theorem dL_ofShot_73 : decode cL_ofShot 73 = .ok (.bipush 21, 2) := by decide +kernel
theorem dL_ofShot_75 : decode cL_ofShot 75 = .ok (.invokestatic 40, 3) := by decide +kernel
theorem dL_ofShot_78 : decode cL_ofShot 78 = .ok (.bipush 10, 2) := by decide +kernel
theorem dL_ofShot_80 : decode cL_ofShot 80 = .ok (.isub, 1) := by decide +kernel
theorem dL_ofShot_81 : decode cL_ofShot 81 = .ok (.iastore, 1) := by decide +kernel
theorem dL_ofShot_82 : decode cL_ofShot 82 = .ok (.iload 10, 2) := by decide +kernel
theorem dL_ofShot_84 : decode cL_ofShot 84 = .ok (.ireturn, 1) := by decide +kernel
theorem dL_ofShot_85 : decode cL_ofShot 85 = .ok (.iload_n 0, 1) := by decide +kernel
theorem dL_ofShot_86 : decode cL_ofShot 86 = .ok (.iconst 3, 1) := by decide +kernel
theorem dL_ofShot_87 : decode cL_ofShot 87 = .ok (.if_icmp .ne 98, 3) := by decide +kernel
theorem dL_ofShot_90 : decode cL_ofShot 90 = .ok (.iload_n 3, 1) := by decide +kernel
theorem dL_ofShot_91 : decode cL_ofShot 91 = .ok (.bipush 21, 2) := by decide +kernel
theorem dL_ofShot_93 : decode cL_ofShot 93 = .ok (.invokestatic 40, 3) := by decide +kernel
theorem dL_ofShot_96 : decode cL_ofShot 96 = .ok (.istore 11, 2) := by decide +kernel
theorem dL_ofShot_98 : decode cL_ofShot 98 = .ok (.iload 11, 2) := by decide +kernel
theorem dL_ofShot_100 : decode cL_ofShot 100 = .ok (.aload 4, 2) := by decide +kernel
theorem dL_ofShot_102 : decode cL_ofShot 102 = .ok (.iconst 4, 1) := by decide +kernel
theorem dL_ofShot_103 : decode cL_ofShot 103 = .ok (.iaload, 1) := by decide +kernel
theorem dL_ofShot_104 : decode cL_ofShot 104 = .ok (.if_icmp .lt 5, 3) := by decide +kernel
theorem dL_ofShot_107 : decode cL_ofShot 107 = .ok (.iconst (-1), 1) := by decide +kernel
theorem dL_ofShot_108 : decode cL_ofShot 108 = .ok (.ireturn, 1) := by decide +kernel
theorem dL_ofShot_109 : decode cL_ofShot 109 = .ok (.iload_n 1, 1) := by decide +kernel
theorem dL_ofShot_110 : decode cL_ofShot 110 = .ok (.bipush 20, 2) := by decide +kernel
theorem dL_ofShot_112 : decode cL_ofShot 112 = .ok (.aload 5, 2) := by decide +kernel
theorem dL_ofShot_114 : decode cL_ofShot 114 = .ok (.aload 6, 2) := by decide +kernel
theorem dL_ofShot_116 : decode cL_ofShot 116 = .ok (.aload 7, 2) := by decide +kernel
theorem dL_ofShot_118 : decode cL_ofShot 118 = .ok (.aload 8, 2) := by decide +kernel
theorem dL_ofShot_120 : decode cL_ofShot 120 = .ok (.aload 9, 2) := by decide +kernel
theorem dL_ofShot_122 : decode cL_ofShot 122 = .ok (.invokestatic 20, 3) := by decide +kernel
theorem dL_ofShot_125 : decode cL_ofShot 125 = .ok (.iload_n 1, 1) := by decide +kernel
theorem dL_ofShot_126 : decode cL_ofShot 126 = .ok (.iconst (-1), 1) := by decide +kernel
theorem dL_ofShot_127 : decode cL_ofShot 127 = .ok (.aload 4, 2) := by decide +kernel
theorem dL_ofShot_129 : decode cL_ofShot 129 = .ok (.aload 5, 2) := by decide +kernel
theorem dL_ofShot_131 : decode cL_ofShot 131 = .ok (.aload 6, 2) := by decide +kernel
theorem dL_ofShot_133 : decode cL_ofShot 133 = .ok (.aload 7, 2) := by decide +kernel
theorem dL_ofShot_135 : decode cL_ofShot 135 = .ok (.aload 8, 2) := by decide +kernel
theorem dL_ofShot_137 : decode cL_ofShot 137 = .ok (.aload 9, 2) := by decide +kernel
theorem dL_ofShot_139 : decode cL_ofShot 139 = .ok (.invokestatic 91, 3) := by decide +kernel
theorem dL_ofShot_142 : decode cL_ofShot 142 = .ok (.iload 11, 2) := by decide +kernel
theorem dL_ofShot_144 : decode cL_ofShot 144 = .ok (.iconst 1, 1) := by decide +kernel
theorem dL_ofShot_145 : decode cL_ofShot 145 = .ok (.aload 4, 2) := by decide +kernel
theorem dL_ofShot_147 : decode cL_ofShot 147 = .ok (.aload 5, 2) := by decide +kernel
theorem dL_ofShot_149 : decode cL_ofShot 149 = .ok (.aload 6, 2) := by decide +kernel
theorem dL_ofShot_151 : decode cL_ofShot 151 = .ok (.aload 7, 2) := by decide +kernel
theorem dL_ofShot_153 : decode cL_ofShot 153 = .ok (.aload 8, 2) := by decide +kernel
theorem dL_ofShot_155 : decode cL_ofShot 155 = .ok (.aload 9, 2) := by decide +kernel
theorem dL_ofShot_157 : decode cL_ofShot 157 = .ok (.invokestatic 91, 3) := by decide +kernel
theorem dL_ofShot_160 : decode cL_ofShot 160 = .ok (.bipush 20, 2) := by decide +kernel
theorem dL_ofShot_162 : decode cL_ofShot 162 = .ok (.iload 11, 2) := by decide +kernel
theorem dL_ofShot_164 : decode cL_ofShot 164 = .ok (.aload 5, 2) := by decide +kernel
theorem dL_ofShot_166 : decode cL_ofShot 166 = .ok (.aload 6, 2) := by decide +kernel
theorem dL_ofShot_168 : decode cL_ofShot 168 = .ok (.aload 7, 2) := by decide +kernel
theorem dL_ofShot_170 : decode cL_ofShot 170 = .ok (.aload 8, 2) := by decide +kernel
theorem dL_ofShot_172 : decode cL_ofShot 172 = .ok (.aload 9, 2) := by decide +kernel
theorem dL_ofShot_174 : decode cL_ofShot 174 = .ok (.invokestatic 20, 3) := by decide +kernel
theorem dL_ofShot_177 : decode cL_ofShot 177 = .ok (.iload 11, 2) := by decide +kernel
theorem dL_ofShot_179 : decode cL_ofShot 179 = .ok (.iload_n 1, 1) := by decide +kernel
theorem dL_ofShot_180 : decode cL_ofShot 180 = .ok (.isub, 1) := by decide +kernel
theorem dL_ofShot_181 : decode cL_ofShot 181 = .ok (.invokestatic 16, 3) := by decide +kernel
theorem dL_ofShot_184 : decode cL_ofShot 184 = .ok (.ireturn, 1) := by decide +kernel
theorem dL_ofShot_185 : decode cL_ofShot 185 = .ok (.iload_n 0, 1) := by decide +kernel
theorem dL_ofShot_186 : decode cL_ofShot 186 = .ok (.iconst 4, 1) := by decide +kernel
theorem dL_ofShot_187 : decode cL_ofShot 187 = .ok (.if_icmp .ne 92, 3) := by decide +kernel
theorem dL_ofShot_190 : decode cL_ofShot 190 = .ok (.iconst 1, 1) := by decide +kernel
theorem dL_ofShot_191 : decode cL_ofShot 191 = .ok (.iload_n 3, 1) := by decide +kernel
theorem dL_ofShot_192 : decode cL_ofShot 192 = .ok (.bipush 98, 2) := by decide +kernel
theorem dL_ofShot_194 : decode cL_ofShot 194 = .ok (.invokestatic 40, 3) := by decide +kernel
theorem dL_ofShot_197 : decode cL_ofShot 197 = .ok (.iadd, 1) := by decide +kernel
theorem dL_ofShot_198 : decode cL_ofShot 198 = .ok (.istore 11, 2) := by decide +kernel
theorem dL_ofShot_200 : decode cL_ofShot 200 = .ok (.aload 5, 2) := by decide +kernel
theorem dL_ofShot_202 : decode cL_ofShot 202 = .ok (.iload_n 1, 1) := by decide +kernel
theorem dL_ofShot_203 : decode cL_ofShot 203 = .ok (.iaload, 1) := by decide +kernel
theorem dL_ofShot_204 : decode cL_ofShot 204 = .ok (.iload 11, 2) := by decide +kernel
theorem dL_ofShot_206 : decode cL_ofShot 206 = .ok (.if_icmp .gt 6, 3) := by decide +kernel
theorem dL_ofShot_209 : decode cL_ofShot 209 = .ok (.bipush (-5), 2) := by decide +kernel
theorem dL_ofShot_211 : decode cL_ofShot 211 = .ok (.ireturn, 1) := by decide +kernel
theorem dL_ofShot_212 : decode cL_ofShot 212 = .ok (.aload 4, 2) := by decide +kernel
theorem dL_ofShot_214 : decode cL_ofShot 214 = .ok (.iconst 4, 1) := by decide +kernel
theorem dL_ofShot_215 : decode cL_ofShot 215 = .ok (.iaload, 1) := by decide +kernel
theorem dL_ofShot_216 : decode cL_ofShot 216 = .ok (.bipush 20, 2) := by decide +kernel
theorem dL_ofShot_218 : decode cL_ofShot 218 = .ok (.if_icmp .ne 6, 3) := by decide +kernel
theorem dL_ofShot_221 : decode cL_ofShot 221 = .ok (.bipush (-4), 2) := by decide +kernel
theorem dL_ofShot_223 : decode cL_ofShot 223 = .ok (.ireturn, 1) := by decide +kernel
theorem dL_ofShot_224 : decode cL_ofShot 224 = .ok (.iload_n 1, 1) := by decide +kernel
theorem dL_ofShot_225 : decode cL_ofShot 225 = .ok (.iconst 1, 1) := by decide +kernel
theorem dL_ofShot_226 : decode cL_ofShot 226 = .ok (.aload 4, 2) := by decide +kernel
theorem dL_ofShot_228 : decode cL_ofShot 228 = .ok (.aload 5, 2) := by decide +kernel
theorem dL_ofShot_230 : decode cL_ofShot 230 = .ok (.aload 6, 2) := by decide +kernel
theorem dL_ofShot_232 : decode cL_ofShot 232 = .ok (.aload 7, 2) := by decide +kernel
theorem dL_ofShot_234 : decode cL_ofShot 234 = .ok (.aload 8, 2) := by decide +kernel
theorem dL_ofShot_236 : decode cL_ofShot 236 = .ok (.aload 9, 2) := by decide +kernel
theorem dL_ofShot_238 : decode cL_ofShot 238 = .ok (.invokestatic 91, 3) := by decide +kernel
theorem dL_ofShot_241 : decode cL_ofShot 241 = .ok (.aload 5, 2) := by decide +kernel
theorem dL_ofShot_243 : decode cL_ofShot 243 = .ok (.iload_n 1, 1) := by decide +kernel
theorem dL_ofShot_244 : decode cL_ofShot 244 = .ok (.iconst 1, 1) := by decide +kernel
theorem dL_ofShot_245 : decode cL_ofShot 245 = .ok (.iadd, 1) := by decide +kernel
theorem dL_ofShot_246 : decode cL_ofShot 246 = .ok (.aload 5, 2) := by decide +kernel
theorem dL_ofShot_248 : decode cL_ofShot 248 = .ok (.iload_n 1, 1) := by decide +kernel
theorem dL_ofShot_249 : decode cL_ofShot 249 = .ok (.iaload, 1) := by decide +kernel
theorem dL_ofShot_250 : decode cL_ofShot 250 = .ok (.iload 11, 2) := by decide +kernel
theorem dL_ofShot_252 : decode cL_ofShot 252 = .ok (.isub, 1) := by decide +kernel
theorem dL_ofShot_253 : decode cL_ofShot 253 = .ok (.iastore, 1) := by decide +kernel
theorem dL_ofShot_254 : decode cL_ofShot 254 = .ok (.aload 5, 2) := by decide +kernel
theorem dL_ofShot_256 : decode cL_ofShot 256 = .ok (.iload_n 1, 1) := by decide +kernel
theorem dL_ofShot_257 : decode cL_ofShot 257 = .ok (.iload 11, 2) := by decide +kernel
theorem dL_ofShot_259 : decode cL_ofShot 259 = .ok (.iastore, 1) := by decide +kernel
theorem dL_ofShot_260 : decode cL_ofShot 260 = .ok (.iload_n 1, 1) := by decide +kernel
theorem dL_ofShot_261 : decode cL_ofShot 261 = .ok (.aload 9, 2) := by decide +kernel
theorem dL_ofShot_263 : decode cL_ofShot 263 = .ok (.invokestatic 24, 3) := by decide +kernel
theorem dL_ofShot_266 : decode cL_ofShot 266 = .ok (.iload_n 1, 1) := by decide +kernel
theorem dL_ofShot_267 : decode cL_ofShot 267 = .ok (.iconst 1, 1) := by decide +kernel
theorem dL_ofShot_268 : decode cL_ofShot 268 = .ok (.iadd, 1) := by decide +kernel
theorem dL_ofShot_269 : decode cL_ofShot 269 = .ok (.aload 9, 2) := by decide +kernel
theorem dL_ofShot_271 : decode cL_ofShot 271 = .ok (.invokestatic 24, 3) := by decide +kernel
theorem dL_ofShot_274 : decode cL_ofShot 274 = .ok (.aload 4, 2) := by decide +kernel
theorem dL_ofShot_276 : decode cL_ofShot 276 = .ok (.iconst 4, 1) := by decide +kernel
theorem dL_ofShot_277 : decode cL_ofShot 277 = .ok (.iaload, 1) := by decide +kernel
theorem dL_ofShot_278 : decode cL_ofShot 278 = .ok (.ireturn, 1) := by decide +kernel
theorem dL_ofShot_279 : decode cL_ofShot 279 = .ok (.iload_n 0, 1) := by decide +kernel
theorem dL_ofShot_280 : decode cL_ofShot 280 = .ok (.iconst 5, 1) := by decide +kernel
theorem dL_ofShot_281 : decode cL_ofShot 281 = .ok (.if_icmp .ne 156, 3) := by decide +kernel
theorem dL_ofShot_284 : decode cL_ofShot 284 = .ok (.iload_n 1, 1) := by decide +kernel
theorem dL_ofShot_285 : decode cL_ofShot 285 = .ok (.iconst 1, 1) := by decide +kernel
theorem dL_ofShot_286 : decode cL_ofShot 286 = .ok (.iadd, 1) := by decide +kernel
theorem dL_ofShot_287 : decode cL_ofShot 287 = .ok (.aload 4, 2) := by decide +kernel
theorem dL_ofShot_289 : decode cL_ofShot 289 = .ok (.iconst 4, 1) := by decide +kernel
theorem dL_ofShot_290 : decode cL_ofShot 290 = .ok (.iaload, 1) := by decide +kernel
theorem dL_ofShot_291 : decode cL_ofShot 291 = .ok (.if_icmp .ge 7, 3) := by decide +kernel
theorem dL_ofShot_294 : decode cL_ofShot 294 = .ok (.iconst 1, 1) := by decide +kernel
theorem dL_ofShot_295 : decode cL_ofShot 295 = .ok (.goto 4, 3) := by decide +kernel
theorem dL_ofShot_298 : decode cL_ofShot 298 = .ok (.iconst 0, 1) := by decide +kernel
theorem dL_ofShot_299 : decode cL_ofShot 299 = .ok (.istore 11, 2) := by decide +kernel
theorem dL_ofShot_301 : decode cL_ofShot 301 = .ok (.iload 11, 2) := by decide +kernel
theorem dL_ofShot_303 : decode cL_ofShot 303 = .ok (.ifCond .ne 5, 3) := by decide +kernel
theorem dL_ofShot_306 : decode cL_ofShot 306 = .ok (.iconst (-1), 1) := by decide +kernel
theorem dL_ofShot_307 : decode cL_ofShot 307 = .ok (.ireturn, 1) := by decide +kernel
theorem dL_ofShot_308 : decode cL_ofShot 308 = .ok (.iconst 0, 1) := by decide +kernel
theorem dL_ofShot_309 : decode cL_ofShot 309 = .ok (.istore 12, 2) := by decide +kernel
theorem dL_ofShot_311 : decode cL_ofShot 311 = .ok (.iload 12, 2) := by decide +kernel
theorem dL_ofShot_313 : decode cL_ofShot 313 = .ok (.iconst 3, 1) := by decide +kernel
theorem dL_ofShot_314 : decode cL_ofShot 314 = .ok (.if_icmp .ge 44, 3) := by decide +kernel
theorem dL_ofShot_317 : decode cL_ofShot 317 = .ok (.iload 11, 2) := by decide +kernel
theorem dL_ofShot_319 : decode cL_ofShot 319 = .ok (.ifCond .eq 30, 3) := by decide +kernel
theorem dL_ofShot_322 : decode cL_ofShot 322 = .ok (.aload 6, 2) := by decide +kernel
theorem dL_ofShot_324 : decode cL_ofShot 324 = .ok (.iconst 3, 1) := by decide +kernel
theorem dL_ofShot_325 : decode cL_ofShot 325 = .ok (.iload_n 1, 1) := by decide +kernel
theorem dL_ofShot_326 : decode cL_ofShot 326 = .ok (.imul, 1) := by decide +kernel
theorem dL_ofShot_327 : decode cL_ofShot 327 = .ok (.iload 12, 2) := by decide +kernel
theorem dL_ofShot_329 : decode cL_ofShot 329 = .ok (.iadd, 1) := by decide +kernel
theorem dL_ofShot_330 : decode cL_ofShot 330 = .ok (.iaload, 1) := by decide +kernel
theorem dL_ofShot_331 : decode cL_ofShot 331 = .ok (.aload 6, 2) := by decide +kernel
theorem dL_ofShot_333 : decode cL_ofShot 333 = .ok (.iconst 3, 1) := by decide +kernel
theorem dL_ofShot_334 : decode cL_ofShot 334 = .ok (.iload_n 1, 1) := by decide +kernel
theorem dL_ofShot_335 : decode cL_ofShot 335 = .ok (.imul, 1) := by decide +kernel
theorem dL_ofShot_336 : decode cL_ofShot 336 = .ok (.iconst 3, 1) := by decide +kernel
theorem dL_ofShot_337 : decode cL_ofShot 337 = .ok (.iadd, 1) := by decide +kernel
theorem dL_ofShot_338 : decode cL_ofShot 338 = .ok (.iload 12, 2) := by decide +kernel
theorem dL_ofShot_340 : decode cL_ofShot 340 = .ok (.iadd, 1) := by decide +kernel
theorem dL_ofShot_341 : decode cL_ofShot 341 = .ok (.iaload, 1) := by decide +kernel
theorem dL_ofShot_342 : decode cL_ofShot 342 = .ok (.if_icmp .ne 7, 3) := by decide +kernel
theorem dL_ofShot_345 : decode cL_ofShot 345 = .ok (.iconst 1, 1) := by decide +kernel
theorem dL_ofShot_346 : decode cL_ofShot 346 = .ok (.goto 4, 3) := by decide +kernel
theorem dL_ofShot_349 : decode cL_ofShot 349 = .ok (.iconst 0, 1) := by decide +kernel
theorem dL_ofShot_350 : decode cL_ofShot 350 = .ok (.istore 11, 2) := by decide +kernel
theorem dL_ofShot_352 : decode cL_ofShot 352 = .ok (.iinc 12 1, 3) := by decide +kernel
theorem dL_ofShot_355 : decode cL_ofShot 355 = .ok (.goto (-44), 3) := by decide +kernel
theorem dL_ofShot_358 : decode cL_ofShot 358 = .ok (.iload 11, 2) := by decide +kernel
theorem dL_ofShot_360 : decode cL_ofShot 360 = .ok (.ifCond .eq 19, 3) := by decide +kernel
theorem dL_ofShot_363 : decode cL_ofShot 363 = .ok (.aload 5, 2) := by decide +kernel
theorem dL_ofShot_365 : decode cL_ofShot 365 = .ok (.iload_n 1, 1) := by decide +kernel
theorem dL_ofShot_366 : decode cL_ofShot 366 = .ok (.iaload, 1) := by decide +kernel
theorem dL_ofShot_367 : decode cL_ofShot 367 = .ok (.aload 5, 2) := by decide +kernel
theorem dL_ofShot_369 : decode cL_ofShot 369 = .ok (.iload_n 1, 1) := by decide +kernel
theorem dL_ofShot_370 : decode cL_ofShot 370 = .ok (.iconst 1, 1) := by decide +kernel
theorem dL_ofShot_371 : decode cL_ofShot 371 = .ok (.iadd, 1) := by decide +kernel
theorem dL_ofShot_372 : decode cL_ofShot 372 = .ok (.iaload, 1) := by decide +kernel
theorem dL_ofShot_373 : decode cL_ofShot 373 = .ok (.iadd, 1) := by decide +kernel
theorem dL_ofShot_374 : decode cL_ofShot 374 = .ok (.bipush 99, 2) := by decide +kernel
theorem dL_ofShot_376 : decode cL_ofShot 376 = .ok (.if_icmp .le 6, 3) := by decide +kernel
theorem dL_ofShot_379 : decode cL_ofShot 379 = .ok (.bipush (-5), 2) := by decide +kernel
theorem dL_ofShot_381 : decode cL_ofShot 381 = .ok (.ireturn, 1) := by decide +kernel
theorem dL_ofShot_382 : decode cL_ofShot 382 = .ok (.aload 5, 2) := by decide +kernel
theorem dL_ofShot_384 : decode cL_ofShot 384 = .ok (.iload_n 1, 1) := by decide +kernel
theorem dL_ofShot_385 : decode cL_ofShot 385 = .ok (.iconst 1, 1) := by decide +kernel
theorem dL_ofShot_386 : decode cL_ofShot 386 = .ok (.iadd, 1) := by decide +kernel
theorem dL_ofShot_387 : decode cL_ofShot 387 = .ok (.dup2, 1) := by decide +kernel
theorem dL_ofShot_388 : decode cL_ofShot 388 = .ok (.iaload, 1) := by decide +kernel
theorem dL_ofShot_389 : decode cL_ofShot 389 = .ok (.aload 5, 2) := by decide +kernel
theorem dL_ofShot_391 : decode cL_ofShot 391 = .ok (.iload_n 1, 1) := by decide +kernel
theorem dL_ofShot_392 : decode cL_ofShot 392 = .ok (.iaload, 1) := by decide +kernel
theorem dL_ofShot_393 : decode cL_ofShot 393 = .ok (.iadd, 1) := by decide +kernel
theorem dL_ofShot_394 : decode cL_ofShot 394 = .ok (.iastore, 1) := by decide +kernel
theorem dL_ofShot_395 : decode cL_ofShot 395 = .ok (.aload 5, 2) := by decide +kernel
theorem dL_ofShot_397 : decode cL_ofShot 397 = .ok (.iload_n 1, 1) := by decide +kernel
theorem dL_ofShot_398 : decode cL_ofShot 398 = .ok (.iconst 1, 1) := by decide +kernel
theorem dL_ofShot_399 : decode cL_ofShot 399 = .ok (.iadd, 1) := by decide +kernel
theorem dL_ofShot_400 : decode cL_ofShot 400 = .ok (.iaload, 1) := by decide +kernel
theorem dL_ofShot_401 : decode cL_ofShot 401 = .ok (.istore 12, 2) := by decide +kernel
theorem dL_ofShot_403 : decode cL_ofShot 403 = .ok (.iload_n 1, 1) := by decide +kernel
theorem dL_ofShot_404 : decode cL_ofShot 404 = .ok (.iconst 1, 1) := by decide +kernel
theorem dL_ofShot_405 : decode cL_ofShot 405 = .ok (.iadd, 1) := by decide +kernel
theorem dL_ofShot_406 : decode cL_ofShot 406 = .ok (.iconst (-1), 1) := by decide +kernel
theorem dL_ofShot_407 : decode cL_ofShot 407 = .ok (.aload 4, 2) := by decide +kernel
theorem dL_ofShot_409 : decode cL_ofShot 409 = .ok (.aload 5, 2) := by decide +kernel
theorem dL_ofShot_411 : decode cL_ofShot 411 = .ok (.aload 6, 2) := by decide +kernel
theorem dL_ofShot_413 : decode cL_ofShot 413 = .ok (.aload 7, 2) := by decide +kernel
theorem dL_ofShot_415 : decode cL_ofShot 415 = .ok (.aload 8, 2) := by decide +kernel
theorem dL_ofShot_417 : decode cL_ofShot 417 = .ok (.aload 9, 2) := by decide +kernel
theorem dL_ofShot_419 : decode cL_ofShot 419 = .ok (.invokestatic 91, 3) := by decide +kernel
theorem dL_ofShot_422 : decode cL_ofShot 422 = .ok (.aload 5, 2) := by decide +kernel
theorem dL_ofShot_424 : decode cL_ofShot 424 = .ok (.iload_n 1, 1) := by decide +kernel
theorem dL_ofShot_425 : decode cL_ofShot 425 = .ok (.iload 12, 2) := by decide +kernel
theorem dL_ofShot_427 : decode cL_ofShot 427 = .ok (.iastore, 1) := by decide +kernel
theorem dL_ofShot_428 : decode cL_ofShot 428 = .ok (.iload_n 1, 1) := by decide +kernel
theorem dL_ofShot_429 : decode cL_ofShot 429 = .ok (.aload 9, 2) := by decide +kernel
theorem dL_ofShot_431 : decode cL_ofShot 431 = .ok (.invokestatic 24, 3) := by decide +kernel
theorem dL_ofShot_434 : decode cL_ofShot 434 = .ok (.iload 12, 2) := by decide +kernel
theorem dL_ofShot_436 : decode cL_ofShot 436 = .ok (.ireturn, 1) := by decide +kernel
theorem dL_ofShot_437 : decode cL_ofShot 437 = .ok (.iload_n 0, 1) := by decide +kernel
theorem dL_ofShot_438 : decode cL_ofShot 438 = .ok (.bipush 7, 2) := by decide +kernel
theorem dL_ofShot_440 : decode cL_ofShot 440 = .ok (.if_icmp .ne 28, 3) := by decide +kernel
theorem dL_ofShot_443 : decode cL_ofShot 443 = .ok (.aload 9, 2) := by decide +kernel
theorem dL_ofShot_445 : decode cL_ofShot 445 = .ok (.iconst 3, 1) := by decide +kernel
theorem dL_ofShot_446 : decode cL_ofShot 446 = .ok (.iload_n 1, 1) := by decide +kernel
theorem dL_ofShot_447 : decode cL_ofShot 447 = .ok (.imul, 1) := by decide +kernel
theorem dL_ofShot_448 : decode cL_ofShot 448 = .ok (.iaload, 1) := by decide +kernel
theorem dL_ofShot_449 : decode cL_ofShot 449 = .ok (.ifCond .ne 8, 3) := by decide +kernel
theorem dL_ofShot_452 : decode cL_ofShot 452 = .ok (.bipush (-5), 2) := by decide +kernel
theorem dL_ofShot_454 : decode cL_ofShot 454 = .ok (.goto 13, 3) := by decide +kernel
theorem dL_ofShot_457 : decode cL_ofShot 457 = .ok (.iload_n 1, 1) := by decide +kernel
theorem dL_ofShot_458 : decode cL_ofShot 458 = .ok (.aload 4, 2) := by decide +kernel
theorem dL_ofShot_460 : decode cL_ofShot 460 = .ok (.aload 8, 2) := by decide +kernel
theorem dL_ofShot_462 : decode cL_ofShot 462 = .ok (.aload 9, 2) := by decide +kernel
theorem dL_ofShot_464 : decode cL_ofShot 464 = .ok (.invokestatic 95, 3) := by decide +kernel
theorem dL_ofShot_467 : decode cL_ofShot 467 = .ok (.ireturn, 1) := by decide +kernel
theorem dL_ofShot_468 : decode cL_ofShot 468 = .ok (.iload_n 1, 1) := by decide +kernel
theorem dL_ofShot_469 : decode cL_ofShot 469 = .ok (.iconst (-1), 1) := by decide +kernel
theorem dL_ofShot_470 : decode cL_ofShot 470 = .ok (.aload 4, 2) := by decide +kernel
theorem dL_ofShot_472 : decode cL_ofShot 472 = .ok (.aload 5, 2) := by decide +kernel
theorem dL_ofShot_474 : decode cL_ofShot 474 = .ok (.aload 6, 2) := by decide +kernel
theorem dL_ofShot_476 : decode cL_ofShot 476 = .ok (.aload 7, 2) := by decide +kernel
theorem dL_ofShot_478 : decode cL_ofShot 478 = .ok (.aload 8, 2) := by decide +kernel
theorem dL_ofShot_480 : decode cL_ofShot 480 = .ok (.aload 9, 2) := by decide +kernel
theorem dL_ofShot_482 : decode cL_ofShot 482 = .ok (.invokestatic 91, 3) := by decide +kernel
theorem dL_ofShot_485 : decode cL_ofShot 485 = .ok (.aload 4, 2) := by decide +kernel
theorem dL_ofShot_487 : decode cL_ofShot 487 = .ok (.iconst 4, 1) := by decide +kernel
theorem dL_ofShot_488 : decode cL_ofShot 488 = .ok (.iaload, 1) := by decide +kernel
theorem dL_ofShot_489 : decode cL_ofShot 489 = .ok (.ireturn, 1) := by decide +kernel
theorem dL_due_0 : decode cL_due 0 = .ok (.iload_n 0, 1) := by decide +kernel
theorem dL_due_1 : decode cL_due 1 = .ok (.ifCond .ne 134, 3) := by decide +kernel
theorem dL_due_4 : decode cL_due 4 = .ok (.iload_n 1, 1) := by decide +kernel
theorem dL_due_5 : decode cL_due 5 = .ok (.aload 4, 2) := by decide +kernel
theorem dL_due_7 : decode cL_due 7 = .ok (.iconst 4, 1) := by decide +kernel
theorem dL_due_8 : decode cL_due 8 = .ok (.iaload, 1) := by decide +kernel
theorem dL_due_9 : decode cL_due 9 = .ok (.if_icmp .gt 12, 3) := by decide +kernel
theorem dL_due_12 : decode cL_due 12 = .ok (.aload 4, 2) := by decide +kernel
theorem dL_due_14 : decode cL_due 14 = .ok (.iconst 4, 1) := by decide +kernel
theorem dL_due_15 : decode cL_due 15 = .ok (.iaload, 1) := by decide +kernel
theorem dL_due_16 : decode cL_due 16 = .ok (.bipush 20, 2) := by decide +kernel
theorem dL_due_18 : decode cL_due 18 = .ok (.if_icmp .ne 18, 3) := by decide +kernel
theorem dL_due_21 : decode cL_due 21 = .ok (.iload_n 1, 1) := by decide +kernel
theorem dL_due_22 : decode cL_due 22 = .ok (.aload 4, 2) := by decide +kernel
theorem dL_due_24 : decode cL_due 24 = .ok (.iconst 4, 1) := by decide +kernel
theorem dL_due_25 : decode cL_due 25 = .ok (.iaload, 1) := by decide +kernel
theorem dL_due_26 : decode cL_due 26 = .ok (.if_icmp .le 7, 3) := by decide +kernel
theorem dL_due_29 : decode cL_due 29 = .ok (.iconst (-1), 1) := by decide +kernel
theorem dL_due_30 : decode cL_due 30 = .ok (.goto 5, 3) := by decide +kernel
theorem dL_due_33 : decode cL_due 33 = .ok (.bipush (-4), 2) := by decide +kernel
theorem dL_due_35 : decode cL_due 35 = .ok (.ireturn, 1) := by decide +kernel
theorem dL_due_36 : decode cL_due 36 = .ok (.iload_n 1, 1) := by decide +kernel
theorem dL_due_37 : decode cL_due 37 = .ok (.iconst 1, 1) := by decide +kernel
theorem dL_due_38 : decode cL_due 38 = .ok (.aload 4, 2) := by decide +kernel
theorem dL_due_40 : decode cL_due 40 = .ok (.aload 5, 2) := by decide +kernel
theorem dL_due_42 : decode cL_due 42 = .ok (.aload 6, 2) := by decide +kernel
theorem dL_due_44 : decode cL_due 44 = .ok (.aload 7, 2) := by decide +kernel
theorem dL_due_46 : decode cL_due 46 = .ok (.aload 8, 2) := by decide +kernel
theorem dL_due_48 : decode cL_due 48 = .ok (.aload 9, 2) := by decide +kernel
theorem dL_due_50 : decode cL_due 50 = .ok (.invokestatic 91, 3) := by decide +kernel
theorem dL_due_53 : decode cL_due 53 = .ok (.aload 5, 2) := by decide +kernel
theorem dL_due_55 : decode cL_due 55 = .ok (.iload_n 1, 1) := by decide +kernel
theorem dL_due_56 : decode cL_due 56 = .ok (.iconst 1, 1) := by decide +kernel
theorem dL_due_57 : decode cL_due 57 = .ok (.iload_n 3, 1) := by decide +kernel
theorem dL_due_58 : decode cL_due 58 = .ok (.bipush 99, 2) := by decide +kernel
theorem dL_due_60 : decode cL_due 60 = .ok (.invokestatic 40, 3) := by decide +kernel
theorem dL_due_63 : decode cL_due 63 = .ok (.iadd, 1) := by decide +kernel
theorem dL_due_64 : decode cL_due 64 = .ok (.iastore, 1) := by decide +kernel
theorem dL_due_65 : decode cL_due 65 = .ok (.iconst 0, 1) := by decide +kernel
theorem dL_due_66 : decode cL_due 66 = .ok (.istore 10, 2) := by decide +kernel
theorem dL_due_68 : decode cL_due 68 = .ok (.iload 10, 2) := by decide +kernel
theorem dL_due_70 : decode cL_due 70 = .ok (.iconst 3, 1) := by decide +kernel
theorem dL_due_71 : decode cL_due 71 = .ok (.if_icmp .ge 53, 3) := by decide +kernel
theorem dL_due_74 : decode cL_due 74 = .ok (.aload 6, 2) := by decide +kernel
theorem dL_due_76 : decode cL_due 76 = .ok (.iconst 3, 1) := by decide +kernel
theorem dL_due_77 : decode cL_due 77 = .ok (.iload_n 1, 1) := by decide +kernel
theorem dL_due_78 : decode cL_due 78 = .ok (.imul, 1) := by decide +kernel
theorem dL_due_79 : decode cL_due 79 = .ok (.iload 10, 2) := by decide +kernel
theorem dL_due_81 : decode cL_due 81 = .ok (.iadd, 1) := by decide +kernel
theorem dL_due_82 : decode cL_due 82 = .ok (.iload_n 3, 1) := by decide +kernel
theorem dL_due_83 : decode cL_due 83 = .ok (.bipush 7, 2) := by decide +kernel
theorem dL_due_85 : decode cL_due 85 = .ok (.iconst 2, 1) := by decide +kernel
theorem dL_due_86 : decode cL_due 86 = .ok (.iload 10, 2) := by decide +kernel
theorem dL_due_88 : decode cL_due 88 = .ok (.imul, 1) := by decide +kernel
theorem dL_due_89 : decode cL_due 89 = .ok (.iadd, 1) := by decide +kernel
theorem dL_due_90 : decode cL_due 90 = .ok (.ishr, 1) := by decide +kernel
theorem dL_due_91 : decode cL_due 91 = .ok (.bipush 51, 2) := by decide +kernel
theorem dL_due_93 : decode cL_due 93 = .ok (.invokestatic 40, 3) := by decide +kernel
theorem dL_due_96 : decode cL_due 96 = .ok (.iastore, 1) := by decide +kernel
theorem dL_due_97 : decode cL_due 97 = .ok (.aload 7, 2) := by decide +kernel
theorem dL_due_99 : decode cL_due 99 = .ok (.iconst 3, 1) := by decide +kernel
theorem dL_due_100 : decode cL_due 100 = .ok (.iload_n 1, 1) := by decide +kernel
theorem dL_due_101 : decode cL_due 101 = .ok (.imul, 1) := by decide +kernel
theorem dL_due_102 : decode cL_due 102 = .ok (.iload 10, 2) := by decide +kernel
theorem dL_due_104 : decode cL_due 104 = .ok (.iadd, 1) := by decide +kernel
theorem dL_due_105 : decode cL_due 105 = .ok (.iconst 0, 1) := by decide +kernel
theorem dL_due_106 : decode cL_due 106 = .ok (.iastore, 1) := by decide +kernel
theorem dL_due_107 : decode cL_due 107 = .ok (.aload 8, 2) := by decide +kernel
theorem dL_due_109 : decode cL_due 109 = .ok (.iconst 3, 1) := by decide +kernel
theorem dL_due_110 : decode cL_due 110 = .ok (.iload_n 1, 1) := by decide +kernel
theorem dL_due_111 : decode cL_due 111 = .ok (.imul, 1) := by decide +kernel
theorem dL_due_112 : decode cL_due 112 = .ok (.iload 10, 2) := by decide +kernel
theorem dL_due_114 : decode cL_due 114 = .ok (.iadd, 1) := by decide +kernel
theorem dL_due_115 : decode cL_due 115 = .ok (.bipush 25, 2) := by decide +kernel
theorem dL_due_117 : decode cL_due 117 = .ok (.iastore, 1) := by decide +kernel
theorem dL_due_118 : decode cL_due 118 = .ok (.iinc 10 1, 3) := by decide +kernel
theorem dL_due_121 : decode cL_due 121 = .ok (.goto (-53), 3) := by decide +kernel
theorem dL_due_124 : decode cL_due 124 = .ok (.iload_n 1, 1) := by decide +kernel
theorem dL_due_125 : decode cL_due 125 = .ok (.aload 9, 2) := by decide +kernel
theorem dL_due_127 : decode cL_due 127 = .ok (.invokestatic 24, 3) := by decide +kernel
theorem dL_due_130 : decode cL_due 130 = .ok (.aload 4, 2) := by decide +kernel
theorem dL_due_132 : decode cL_due 132 = .ok (.iconst 4, 1) := by decide +kernel
theorem dL_due_133 : decode cL_due 133 = .ok (.iaload, 1) := by decide +kernel
theorem dL_due_134 : decode cL_due 134 = .ok (.ireturn, 1) := by decide +kernel
theorem dL_due_135 : decode cL_due 135 = .ok (.iload_n 0, 1) := by decide +kernel
theorem dL_due_136 : decode cL_due 136 = .ok (.bipush 6, 2) := by decide +kernel
theorem dL_due_138 : decode cL_due 138 = .ok (.if_icmp .lt 15, 3) := by decide +kernel
theorem dL_due_141 : decode cL_due 141 = .ok (.iload_n 0, 1) := by decide +kernel
theorem dL_due_142 : decode cL_due 142 = .ok (.bipush 7, 2) := by decide +kernel
theorem dL_due_144 : decode cL_due 144 = .ok (.if_icmp .eq 9, 3) := by decide +kernel
theorem dL_due_147 : decode cL_due 147 = .ok (.iload_n 0, 1) := by decide +kernel
theorem dL_due_148 : decode cL_due 148 = .ok (.bipush 12, 2) := by decide +kernel
theorem dL_due_150 : decode cL_due 150 = .ok (.if_icmp .ne 35, 3) := by decide +kernel
theorem dL_due_153 : decode cL_due 153 = .ok (.iload_n 1, 1) := by decide +kernel
theorem dL_due_154 : decode cL_due 154 = .ok (.aload 4, 2) := by decide +kernel
theorem dL_due_156 : decode cL_due 156 = .ok (.iconst 4, 1) := by decide +kernel
theorem dL_due_157 : decode cL_due 157 = .ok (.iaload, 1) := by decide +kernel
theorem dL_due_158 : decode cL_due 158 = .ok (.if_icmp .lt 7, 3) := by decide +kernel
theorem dL_due_161 : decode cL_due 161 = .ok (.iconst (-1), 1) := by decide +kernel
theorem dL_due_162 : decode cL_due 162 = .ok (.goto 22, 3) := by decide +kernel
theorem dL_due_165 : decode cL_due 165 = .ok (.iload_n 0, 1) := by decide +kernel
theorem dL_due_166 : decode cL_due 166 = .ok (.iload_n 1, 1) := by decide +kernel
theorem dL_due_167 : decode cL_due 167 = .ok (.iload_n 2, 1) := by decide +kernel
theorem dL_due_168 : decode cL_due 168 = .ok (.iload_n 3, 1) := by decide +kernel
theorem dL_due_169 : decode cL_due 169 = .ok (.aload 4, 2) := by decide +kernel
theorem dL_due_171 : decode cL_due 171 = .ok (.aload 5, 2) := by decide +kernel
theorem dL_due_173 : decode cL_due 173 = .ok (.aload 6, 2) := by decide +kernel
theorem dL_due_175 : decode cL_due 175 = .ok (.aload 7, 2) := by decide +kernel
theorem dL_due_177 : decode cL_due 177 = .ok (.aload 8, 2) := by decide +kernel
theorem dL_due_179 : decode cL_due 179 = .ok (.aload 9, 2) := by decide +kernel
theorem dL_due_181 : decode cL_due 181 = .ok (.invokestatic 99, 3) := by decide +kernel
theorem dL_due_184 : decode cL_due 184 = .ok (.ireturn, 1) := by decide +kernel
theorem dL_due_185 : decode cL_due 185 = .ok (.iconst 0, 1) := by decide +kernel
theorem dL_due_186 : decode cL_due 186 = .ok (.istore 10, 2) := by decide +kernel
theorem dL_due_188 : decode cL_due 188 = .ok (.iload_n 0, 1) := by decide +kernel
theorem dL_due_189 : decode cL_due 189 = .ok (.bipush 6, 2) := by decide +kernel
theorem dL_due_191 : decode cL_due 191 = .ok (.if_icmp .ne 31, 3) := by decide +kernel
theorem dL_due_194 : decode cL_due 194 = .ok (.aload 4, 2) := by decide +kernel
theorem dL_due_196 : decode cL_due 196 = .ok (.iconst 4, 1) := by decide +kernel
theorem dL_due_197 : decode cL_due 197 = .ok (.iaload, 1) := by decide +kernel
theorem dL_due_198 : decode cL_due 198 = .ok (.ifCond .ne 8, 3) := by decide +kernel
theorem dL_due_201 : decode cL_due 201 = .ok (.bipush (-5), 2) := by decide +kernel
theorem dL_due_203 : decode cL_due 203 = .ok (.goto 18, 3) := by decide +kernel
theorem dL_due_206 : decode cL_due 206 = .ok (.aload 4, 2) := by decide +kernel
theorem dL_due_208 : decode cL_due 208 = .ok (.aload 5, 2) := by decide +kernel
theorem dL_due_210 : decode cL_due 210 = .ok (.aload 6, 2) := by decide +kernel
theorem dL_due_212 : decode cL_due 212 = .ok (.aload 7, 2) := by decide +kernel
theorem dL_due_214 : decode cL_due 214 = .ok (.aload 8, 2) := by decide +kernel
theorem dL_due_216 : decode cL_due 216 = .ok (.aload 9, 2) := by decide +kernel
theorem dL_due_218 : decode cL_due 218 = .ok (.invokestatic 103, 3) := by decide +kernel
theorem dL_due_221 : decode cL_due 221 = .ok (.ireturn, 1) := by decide +kernel
theorem dL_due_222 : decode cL_due 222 = .ok (.iload_n 0, 1) := by decide +kernel
theorem dL_due_223 : decode cL_due 223 = .ok (.bipush 8, 2) := by decide +kernel
theorem dL_due_225 : decode cL_due 225 = .ok (.if_icmp .ne 64, 3) := by decide +kernel
theorem dL_due_228 : decode cL_due 228 = .ok (.iconst 0, 1) := by decide +kernel
theorem dL_due_229 : decode cL_due 229 = .ok (.istore 11, 2) := by decide +kernel
theorem dL_due_231 : decode cL_due 231 = .ok (.iload 11, 2) := by decide +kernel
theorem dL_due_233 : decode cL_due 233 = .ok (.aload 4, 2) := by decide +kernel
theorem dL_due_235 : decode cL_due 235 = .ok (.iconst 4, 1) := by decide +kernel
theorem dL_due_236 : decode cL_due 236 = .ok (.iaload, 1) := by decide +kernel
theorem dL_due_237 : decode cL_due 237 = .ok (.if_icmp .ge 49, 3) := by decide +kernel
theorem dL_due_240 : decode cL_due 240 = .ok (.iload 11, 2) := by decide +kernel
theorem dL_due_242 : decode cL_due 242 = .ok (.aload 4, 2) := by decide +kernel
theorem dL_due_244 : decode cL_due 244 = .ok (.aload 9, 2) := by decide +kernel
theorem dL_due_246 : decode cL_due 246 = .ok (.invokestatic 36, 3) := by decide +kernel
theorem dL_due_249 : decode cL_due 249 = .ok (.ifCond .eq 31, 3) := by decide +kernel
theorem dL_due_252 : decode cL_due 252 = .ok (.iload 11, 2) := by decide +kernel
theorem dL_due_254 : decode cL_due 254 = .ok (.aload 4, 2) := by decide +kernel
theorem dL_due_256 : decode cL_due 256 = .ok (.aload 8, 2) := by decide +kernel
theorem dL_due_258 : decode cL_due 258 = .ok (.aload 9, 2) := by decide +kernel
theorem dL_due_260 : decode cL_due 260 = .ok (.invokestatic 95, 3) := by decide +kernel
theorem dL_due_263 : decode cL_due 263 = .ok (.istore 12, 2) := by decide +kernel
theorem dL_due_265 : decode cL_due 265 = .ok (.iload 10, 2) := by decide +kernel
theorem dL_due_267 : decode cL_due 267 = .ok (.iload 12, 2) := by decide +kernel
theorem dL_due_269 : decode cL_due 269 = .ok (.ifCond .ge 7, 3) := by decide +kernel
theorem dL_due_272 : decode cL_due 272 = .ok (.iconst 0, 1) := by decide +kernel
theorem dL_due_273 : decode cL_due 273 = .ok (.goto 4, 3) := by decide +kernel
theorem dL_due_276 : decode cL_due 276 = .ok (.iconst 1, 1) := by decide +kernel
theorem dL_due_277 : decode cL_due 277 = .ok (.iadd, 1) := by decide +kernel
theorem dL_due_278 : decode cL_due 278 = .ok (.istore 10, 2) := by decide +kernel
theorem dL_due_280 : decode cL_due 280 = .ok (.iinc 11 1, 3) := by decide +kernel
theorem dL_due_283 : decode cL_due 283 = .ok (.goto (-52), 3) := by decide +kernel
theorem dL_due_286 : decode cL_due 286 = .ok (.iload 10, 2) := by decide +kernel
theorem dL_due_288 : decode cL_due 288 = .ok (.ireturn, 1) := by decide +kernel
theorem dL_due_289 : decode cL_due 289 = .ok (.iload_n 0, 1) := by decide +kernel
theorem dL_due_290 : decode cL_due 290 = .ok (.bipush 9, 2) := by decide +kernel
theorem dL_due_292 : decode cL_due 292 = .ok (.if_icmp .ne 74, 3) := by decide +kernel
theorem dL_due_295 : decode cL_due 295 = .ok (.iconst 0, 1) := by decide +kernel
theorem dL_due_296 : decode cL_due 296 = .ok (.istore 11, 2) := by decide +kernel
theorem dL_due_298 : decode cL_due 298 = .ok (.iload 11, 2) := by decide +kernel
theorem dL_due_300 : decode cL_due 300 = .ok (.iconst 3, 1) := by decide +kernel
theorem dL_due_301 : decode cL_due 301 = .ok (.if_icmp .ge 62, 3) := by decide +kernel
theorem dL_due_304 : decode cL_due 304 = .ok (.aload 4, 2) := by decide +kernel
theorem dL_due_306 : decode cL_due 306 = .ok (.bipush 7, 2) := by decide +kernel
theorem dL_due_308 : decode cL_due 308 = .ok (.iload 11, 2) := by decide +kernel
theorem dL_due_310 : decode cL_due 310 = .ok (.iadd, 1) := by decide +kernel
theorem dL_due_311 : decode cL_due 311 = .ok (.iaload, 1) := by decide +kernel
theorem dL_due_312 : decode cL_due 312 = .ok (.aload 4, 2) := by decide +kernel
theorem dL_due_314 : decode cL_due 314 = .ok (.iconst 3, 1) := by decide +kernel
theorem dL_due_315 : decode cL_due 315 = .ok (.iaload, 1) := by decide +kernel
theorem dL_due_316 : decode cL_due 316 = .ok (.imul, 1) := by decide +kernel
theorem dL_due_317 : decode cL_due 317 = .ok (.bipush 100, 2) := by decide +kernel
theorem dL_due_319 : decode cL_due 319 = .ok (.idiv, 1) := by decide +kernel
theorem dL_due_320 : decode cL_due 320 = .ok (.istore 12, 2) := by decide +kernel
theorem dL_due_322 : decode cL_due 322 = .ok (.aload 4, 2) := by decide +kernel
theorem dL_due_324 : decode cL_due 324 = .ok (.bipush 10, 2) := by decide +kernel
theorem dL_due_326 : decode cL_due 326 = .ok (.iload 11, 2) := by decide +kernel
theorem dL_due_328 : decode cL_due 328 = .ok (.iadd, 1) := by decide +kernel
theorem dL_due_329 : decode cL_due 329 = .ok (.iload 12, 2) := by decide +kernel
theorem dL_due_331 : decode cL_due 331 = .ok (.bipush 20, 2) := by decide +kernel
theorem dL_due_333 : decode cL_due 333 = .ok (.if_icmp .le 8, 3) := by decide +kernel
theorem dL_due_336 : decode cL_due 336 = .ok (.bipush 20, 2) := by decide +kernel
theorem dL_due_338 : decode cL_due 338 = .ok (.goto 5, 3) := by decide +kernel
theorem dL_due_341 : decode cL_due 341 = .ok (.iload 12, 2) := by decide +kernel
theorem dL_due_343 : decode cL_due 343 = .ok (.iastore, 1) := by decide +kernel
theorem dL_due_344 : decode cL_due 344 = .ok (.iload 10, 2) := by decide +kernel
theorem dL_due_346 : decode cL_due 346 = .ok (.aload 4, 2) := by decide +kernel
theorem dL_due_348 : decode cL_due 348 = .ok (.bipush 10, 2) := by decide +kernel
theorem dL_due_350 : decode cL_due 350 = .ok (.iload 11, 2) := by decide +kernel
theorem dL_due_352 : decode cL_due 352 = .ok (.iadd, 1) := by decide +kernel
theorem dL_due_353 : decode cL_due 353 = .ok (.iaload, 1) := by decide +kernel
theorem dL_due_354 : decode cL_due 354 = .ok (.iadd, 1) := by decide +kernel
theorem dL_due_355 : decode cL_due 355 = .ok (.istore 10, 2) := by decide +kernel
theorem dL_due_357 : decode cL_due 357 = .ok (.iinc 11 1, 3) := by decide +kernel
theorem dL_due_360 : decode cL_due 360 = .ok (.goto (-62), 3) := by decide +kernel
theorem dL_due_363 : decode cL_due 363 = .ok (.iload 10, 2) := by decide +kernel
theorem dL_due_365 : decode cL_due 365 = .ok (.ireturn, 1) := by decide +kernel
theorem dL_due_366 : decode cL_due 366 = .ok (.iload_n 0, 1) := by decide +kernel
theorem dL_due_367 : decode cL_due 367 = .ok (.bipush 10, 2) := by decide +kernel
theorem dL_due_369 : decode cL_due 369 = .ok (.if_icmp .ne 10, 3) := by decide +kernel
theorem dL_due_372 : decode cL_due 372 = .ok (.bipush 10, 2) := by decide +kernel
theorem dL_due_374 : decode cL_due 374 = .ok (.iload_n 2, 1) := by decide +kernel
theorem dL_due_375 : decode cL_due 375 = .ok (.iadd, 1) := by decide +kernel
theorem dL_due_376 : decode cL_due 376 = .ok (.goto 21, 3) := by decide +kernel
theorem dL_due_379 : decode cL_due 379 = .ok (.iload_n 0, 1) := by decide +kernel
theorem dL_due_380 : decode cL_due 380 = .ok (.bipush 11, 2) := by decide +kernel
theorem dL_due_382 : decode cL_due 382 = .ok (.if_icmp .ne 10, 3) := by decide +kernel
theorem dL_due_385 : decode cL_due 385 = .ok (.bipush 7, 2) := by decide +kernel
theorem dL_due_387 : decode cL_due 387 = .ok (.iload_n 2, 1) := by decide +kernel
theorem dL_due_388 : decode cL_due 388 = .ok (.iadd, 1) := by decide +kernel
theorem dL_due_389 : decode cL_due 389 = .ok (.goto 8, 3) := by decide +kernel
theorem dL_due_392 : decode cL_due 392 = .ok (.iload_n 1, 1) := by decide +kernel
theorem dL_due_393 : decode cL_due 393 = .ok (.iconst 4, 1) := by decide +kernel
theorem dL_due_394 : decode cL_due 394 = .ok (.invokestatic 40, 3) := by decide +kernel
theorem dL_due_397 : decode cL_due 397 = .ok (.istore 11, 2) := by decide +kernel
theorem dL_due_399 : decode cL_due 399 = .ok (.aload 4, 2) := by decide +kernel
theorem dL_due_401 : decode cL_due 401 = .ok (.iload 11, 2) := by decide +kernel
theorem dL_due_403 : decode cL_due 403 = .ok (.iaload, 1) := by decide +kernel
theorem dL_due_404 : decode cL_due 404 = .ok (.istore 12, 2) := by decide +kernel
theorem dL_due_406 : decode cL_due 406 = .ok (.aload 4, 2) := by decide +kernel
theorem dL_due_408 : decode cL_due 408 = .ok (.iload 11, 2) := by decide +kernel
theorem dL_due_410 : decode cL_due 410 = .ok (.iload_n 0, 1) := by decide +kernel
theorem dL_due_411 : decode cL_due 411 = .ok (.bipush 10, 2) := by decide +kernel
theorem dL_due_413 : decode cL_due 413 = .ok (.if_icmp .ne 15, 3) := by decide +kernel
theorem dL_due_416 : decode cL_due 416 = .ok (.iload_n 3, 1) := by decide +kernel
theorem dL_due_417 : decode cL_due 417 = .ok (.bipush 41, 2) := by decide +kernel
theorem dL_due_419 : decode cL_due 419 = .ok (.invokestatic 40, 3) := by decide +kernel
theorem dL_due_422 : decode cL_due 422 = .ok (.bipush 20, 2) := by decide +kernel
theorem dL_due_424 : decode cL_due 424 = .ok (.isub, 1) := by decide +kernel
theorem dL_due_425 : decode cL_due 425 = .ok (.goto 20, 3) := by decide +kernel
theorem dL_due_428 : decode cL_due 428 = .ok (.iload_n 0, 1) := by decide +kernel
theorem dL_due_429 : decode cL_due 429 = .ok (.bipush 11, 2) := by decide +kernel
theorem dL_due_431 : decode cL_due 431 = .ok (.if_icmp .ne 7, 3) := by decide +kernel
theorem dL_due_434 : decode cL_due 434 = .ok (.iconst 0, 1) := by decide +kernel
theorem dL_due_435 : decode cL_due 435 = .ok (.goto 10, 3) := by decide +kernel
theorem dL_due_438 : decode cL_due 438 = .ok (.iconst 1, 1) := by decide +kernel
theorem dL_due_439 : decode cL_due 439 = .ok (.iload_n 3, 1) := by decide +kernel
theorem dL_due_440 : decode cL_due 440 = .ok (.iconst 5, 1) := by decide +kernel
theorem dL_due_441 : decode cL_due 441 = .ok (.invokestatic 40, 3) := by decide +kernel
theorem dL_due_444 : decode cL_due 444 = .ok (.iadd, 1) := by decide +kernel
theorem dL_due_445 : decode cL_due 445 = .ok (.iastore, 1) := by decide +kernel
theorem dL_due_446 : decode cL_due 446 = .ok (.iload_n 0, 1) := by decide +kernel
theorem dL_due_447 : decode cL_due 447 = .ok (.bipush 10, 2) := by decide +kernel
theorem dL_due_449 : decode cL_due 449 = .ok (.if_icmp .ne 11, 3) := by decide +kernel
theorem dL_due_452 : decode cL_due 452 = .ok (.iload 12, 2) := by decide +kernel
theorem dL_due_454 : decode cL_due 454 = .ok (.bipush 20, 2) := by decide +kernel
theorem dL_due_456 : decode cL_due 456 = .ok (.iadd, 1) := by decide +kernel
theorem dL_due_457 : decode cL_due 457 = .ok (.goto 5, 3) := by decide +kernel
theorem dL_due_460 : decode cL_due 460 = .ok (.iload 12, 2) := by decide +kernel
theorem dL_due_462 : decode cL_due 462 = .ok (.ireturn, 1) := by decide +kernel
theorem dL_isShot_0 : decode cL_isShot 0 = .ok (.iconst 3, 1) := by decide +kernel
theorem dL_isShot_1 : decode cL_isShot 1 = .ok (.iload_n 1, 1) := by decide +kernel
theorem dL_isShot_2 : decode cL_isShot 2 = .ok (.imul, 1) := by decide +kernel
theorem dL_isShot_3 : decode cL_isShot 3 = .ok (.iload_n 2, 1) := by decide +kernel
theorem dL_isShot_4 : decode cL_isShot 4 = .ok (.iadd, 1) := by decide +kernel
theorem dL_isShot_5 : decode cL_isShot 5 = .ok (.istore 10, 2) := by decide +kernel
theorem dL_isShot_7 : decode cL_isShot 7 = .ok (.aload 7, 2) := by decide +kernel
theorem dL_isShot_9 : decode cL_isShot 9 = .ok (.iload 10, 2) := by decide +kernel
theorem dL_isShot_11 : decode cL_isShot 11 = .ok (.iaload, 1) := by decide +kernel
theorem dL_isShot_12 : decode cL_isShot 12 = .ok (.aload 6, 2) := by decide +kernel
theorem dL_isShot_14 : decode cL_isShot 14 = .ok (.iload 10, 2) := by decide +kernel
theorem dL_isShot_16 : decode cL_isShot 16 = .ok (.iaload, 1) := by decide +kernel
theorem dL_isShot_17 : decode cL_isShot 17 = .ok (.iadd, 1) := by decide +kernel
theorem dL_isShot_18 : decode cL_isShot 18 = .ok (.aload 4, 2) := by decide +kernel
theorem dL_isShot_20 : decode cL_isShot 20 = .ok (.bipush 7, 2) := by decide +kernel
theorem dL_isShot_22 : decode cL_isShot 22 = .ok (.iload_n 2, 1) := by decide +kernel
theorem dL_isShot_23 : decode cL_isShot 23 = .ok (.iadd, 1) := by decide +kernel
theorem dL_isShot_24 : decode cL_isShot 24 = .ok (.iaload, 1) := by decide +kernel
theorem dL_isShot_25 : decode cL_isShot 25 = .ok (.aload 4, 2) := by decide +kernel
theorem dL_isShot_27 : decode cL_isShot 27 = .ok (.iconst 3, 1) := by decide +kernel
theorem dL_isShot_28 : decode cL_isShot 28 = .ok (.iaload, 1) := by decide +kernel
theorem dL_isShot_29 : decode cL_isShot 29 = .ok (.imul, 1) := by decide +kernel
theorem dL_isShot_30 : decode cL_isShot 30 = .ok (.bipush 100, 2) := by decide +kernel
theorem dL_isShot_32 : decode cL_isShot 32 = .ok (.idiv, 1) := by decide +kernel
theorem dL_isShot_33 : decode cL_isShot 33 = .ok (.iadd, 1) := by decide +kernel
theorem dL_isShot_34 : decode cL_isShot 34 = .ok (.aload 4, 2) := by decide +kernel
theorem dL_isShot_36 : decode cL_isShot 36 = .ok (.bipush 10, 2) := by decide +kernel
theorem dL_isShot_38 : decode cL_isShot 38 = .ok (.iload_n 2, 1) := by decide +kernel
theorem dL_isShot_39 : decode cL_isShot 39 = .ok (.iadd, 1) := by decide +kernel
theorem dL_isShot_40 : decode cL_isShot 40 = .ok (.iaload, 1) := by decide +kernel
theorem dL_isShot_41 : decode cL_isShot 41 = .ok (.isub, 1) := by decide +kernel
theorem dL_isShot_42 : decode cL_isShot 42 = .ok (.istore 11, 2) := by decide +kernel
theorem dL_isShot_44 : decode cL_isShot 44 = .ok (.aload_n 0, 1) := by decide +kernel
theorem dL_isShot_45 : decode cL_isShot 45 = .ok (.iload_n 1, 1) := by decide +kernel
theorem dL_isShot_46 : decode cL_isShot 46 = .ok (.iconst 0, 1) := by decide +kernel
theorem dL_isShot_47 : decode cL_isShot 47 = .ok (.invokevirtual 106, 3) := by decide +kernel
theorem dL_isShot_50 : decode cL_isShot 50 = .ok (.aload 5, 2) := by decide +kernel
theorem dL_isShot_52 : decode cL_isShot 52 = .ok (.iload_n 1, 1) := by decide +kernel
theorem dL_isShot_53 : decode cL_isShot 53 = .ok (.iaload, 1) := by decide +kernel
theorem dL_isShot_54 : decode cL_isShot 54 = .ok (.if_icmp .ne 96, 3) := by decide +kernel
theorem dL_isShot_57 : decode cL_isShot 57 = .ok (.aload_n 0, 1) := by decide +kernel
theorem dL_isShot_58 : decode cL_isShot 58 = .ok (.iload_n 1, 1) := by decide +kernel
theorem dL_isShot_59 : decode cL_isShot 59 = .ok (.iconst 1, 1) := by decide +kernel
theorem dL_isShot_60 : decode cL_isShot 60 = .ok (.invokevirtual 106, 3) := by decide +kernel
theorem dL_isShot_63 : decode cL_isShot 63 = .ok (.iload_n 1, 1) := by decide +kernel
theorem dL_isShot_64 : decode cL_isShot 64 = .ok (.aload 5, 2) := by decide +kernel
theorem dL_isShot_66 : decode cL_isShot 66 = .ok (.invokestatic 28, 3) := by decide +kernel
theorem dL_isShot_69 : decode cL_isShot 69 = .ok (.if_icmp .ne 81, 3) := by decide +kernel
theorem dL_isShot_72 : decode cL_isShot 72 = .ok (.aload_n 0, 1) := by decide +kernel
theorem dL_isShot_73 : decode cL_isShot 73 = .ok (.iload_n 1, 1) := by decide +kernel
theorem dL_isShot_74 : decode cL_isShot 74 = .ok (.iconst 2, 1) := by decide +kernel
theorem dL_isShot_75 : decode cL_isShot 75 = .ok (.invokevirtual 106, 3) := by decide +kernel
theorem dL_isShot_78 : decode cL_isShot 78 = .ok (.aload 9, 2) := by decide +kernel
theorem dL_isShot_80 : decode cL_isShot 80 = .ok (.iload 10, 2) := by decide +kernel
theorem dL_isShot_82 : decode cL_isShot 82 = .ok (.iaload, 1) := by decide +kernel
theorem dL_isShot_83 : decode cL_isShot 83 = .ok (.ifCond .le 7, 3) := by decide +kernel
theorem dL_isShot_86 : decode cL_isShot 86 = .ok (.iconst 1, 1) := by decide +kernel
theorem dL_isShot_87 : decode cL_isShot 87 = .ok (.goto 4, 3) := by decide +kernel
theorem dL_isShot_90 : decode cL_isShot 90 = .ok (.iconst 0, 1) := by decide +kernel
theorem dL_isShot_91 : decode cL_isShot 91 = .ok (.if_icmp .ne 59, 3) := by decide +kernel
theorem dL_isShot_94 : decode cL_isShot 94 = .ok (.aload_n 0, 1) := by decide +kernel
theorem dL_isShot_95 : decode cL_isShot 95 = .ok (.iload_n 1, 1) := by decide +kernel
theorem dL_isShot_96 : decode cL_isShot 96 = .ok (.iconst 3, 1) := by decide +kernel
theorem dL_isShot_97 : decode cL_isShot 97 = .ok (.invokevirtual 106, 3) := by decide +kernel
theorem dL_isShot_100 : decode cL_isShot 100 = .ok (.iload_n 1, 1) := by decide +kernel
theorem dL_isShot_101 : decode cL_isShot 101 = .ok (.aload 4, 2) := by decide +kernel
theorem dL_isShot_103 : decode cL_isShot 103 = .ok (.aload 9, 2) := by decide +kernel
theorem dL_isShot_105 : decode cL_isShot 105 = .ok (.invokestatic 36, 3) := by decide +kernel
theorem dL_isShot_108 : decode cL_isShot 108 = .ok (.ifCond .eq 7, 3) := by decide +kernel
theorem dL_isShot_111 : decode cL_isShot 111 = .ok (.iconst 1, 1) := by decide +kernel
theorem dL_isShot_112 : decode cL_isShot 112 = .ok (.goto 4, 3) := by decide +kernel
theorem dL_isShot_115 : decode cL_isShot 115 = .ok (.iconst 0, 1) := by decide +kernel
theorem dL_isShot_116 : decode cL_isShot 116 = .ok (.if_icmp .ne 34, 3) := by decide +kernel
theorem dL_isShot_119 : decode cL_isShot 119 = .ok (.aload_n 0, 1) := by decide +kernel
theorem dL_isShot_120 : decode cL_isShot 120 = .ok (.iload_n 1, 1) := by decide +kernel
theorem dL_isShot_121 : decode cL_isShot 121 = .ok (.iconst 4, 1) := by decide +kernel
theorem dL_isShot_122 : decode cL_isShot 122 = .ok (.invokevirtual 106, 3) := by decide +kernel
theorem dL_isShot_125 : decode cL_isShot 125 = .ok (.iload_n 1, 1) := by decide +kernel
theorem dL_isShot_126 : decode cL_isShot 126 = .ok (.aload 4, 2) := by decide +kernel
theorem dL_isShot_128 : decode cL_isShot 128 = .ok (.aload 6, 2) := by decide +kernel
theorem dL_isShot_130 : decode cL_isShot 130 = .ok (.aload 8, 2) := by decide +kernel
theorem dL_isShot_132 : decode cL_isShot 132 = .ok (.invokestatic 109, 3) := by decide +kernel
theorem dL_isShot_135 : decode cL_isShot 135 = .ok (.ifCond .eq 7, 3) := by decide +kernel
theorem dL_isShot_138 : decode cL_isShot 138 = .ok (.iconst 1, 1) := by decide +kernel
theorem dL_isShot_139 : decode cL_isShot 139 = .ok (.goto 4, 3) := by decide +kernel
theorem dL_isShot_142 : decode cL_isShot 142 = .ok (.iconst 0, 1) := by decide +kernel
theorem dL_isShot_143 : decode cL_isShot 143 = .ok (.if_icmp .ne 7, 3) := by decide +kernel
theorem dL_isShot_146 : decode cL_isShot 146 = .ok (.iconst 1, 1) := by decide +kernel
theorem dL_isShot_147 : decode cL_isShot 147 = .ok (.goto 4, 3) := by decide +kernel
theorem dL_isShot_150 : decode cL_isShot 150 = .ok (.iconst 0, 1) := by decide +kernel
theorem dL_isShot_151 : decode cL_isShot 151 = .ok (.istore 12, 2) := by decide +kernel
theorem dL_isShot_153 : decode cL_isShot 153 = .ok (.iload 12, 2) := by decide +kernel
theorem dL_isShot_155 : decode cL_isShot 155 = .ok (.ifCond .eq 137, 3) := by decide +kernel
theorem dL_isShot_158 : decode cL_isShot 158 = .ok (.aload_n 0, 1) := by decide +kernel
theorem dL_isShot_159 : decode cL_isShot 159 = .ok (.iload_n 1, 1) := by decide +kernel
theorem dL_isShot_160 : decode cL_isShot 160 = .ok (.iload_n 2, 1) := by decide +kernel
theorem dL_isShot_161 : decode cL_isShot 161 = .ok (.iconst 0, 1) := by decide +kernel
theorem dL_isShot_162 : decode cL_isShot 162 = .ok (.invokevirtual 113, 3) := by decide +kernel
theorem dL_isShot_165 : decode cL_isShot 165 = .ok (.aload 6, 2) := by decide +kernel
theorem dL_isShot_167 : decode cL_isShot 167 = .ok (.iload 10, 2) := by decide +kernel
theorem dL_isShot_169 : decode cL_isShot 169 = .ok (.iaload, 1) := by decide +kernel
theorem dL_isShot_170 : decode cL_isShot 170 = .ok (.if_icmp .ne 122, 3) := by decide +kernel
theorem dL_isShot_173 : decode cL_isShot 173 = .ok (.aload_n 0, 1) := by decide +kernel
theorem dL_isShot_174 : decode cL_isShot 174 = .ok (.iload_n 1, 1) := by decide +kernel
theorem dL_isShot_175 : decode cL_isShot 175 = .ok (.iload_n 2, 1) := by decide +kernel
theorem dL_isShot_176 : decode cL_isShot 176 = .ok (.iconst 1, 1) := by decide +kernel
theorem dL_isShot_177 : decode cL_isShot 177 = .ok (.invokevirtual 113, 3) := by decide +kernel
theorem dL_isShot_180 : decode cL_isShot 180 = .ok (.aload 7, 2) := by decide +kernel
theorem dL_isShot_182 : decode cL_isShot 182 = .ok (.iload 10, 2) := by decide +kernel
theorem dL_isShot_184 : decode cL_isShot 184 = .ok (.iaload, 1) := by decide +kernel
theorem dL_isShot_185 : decode cL_isShot 185 = .ok (.bipush 10, 2) := by decide +kernel
theorem dL_isShot_187 : decode cL_isShot 187 = .ok (.iadd, 1) := by decide +kernel
theorem dL_isShot_188 : decode cL_isShot 188 = .ok (.if_icmp .ne 104, 3) := by decide +kernel
theorem dL_isShot_191 : decode cL_isShot 191 = .ok (.aload_n 0, 1) := by decide +kernel
theorem dL_isShot_192 : decode cL_isShot 192 = .ok (.iload_n 1, 1) := by decide +kernel
theorem dL_isShot_193 : decode cL_isShot 193 = .ok (.iload_n 2, 1) := by decide +kernel
theorem dL_isShot_194 : decode cL_isShot 194 = .ok (.iconst 2, 1) := by decide +kernel
theorem dL_isShot_195 : decode cL_isShot 195 = .ok (.invokevirtual 113, 3) := by decide +kernel
theorem dL_isShot_198 : decode cL_isShot 198 = .ok (.aload 8, 2) := by decide +kernel
theorem dL_isShot_200 : decode cL_isShot 200 = .ok (.iload 10, 2) := by decide +kernel
theorem dL_isShot_202 : decode cL_isShot 202 = .ok (.iaload, 1) := by decide +kernel
theorem dL_isShot_203 : decode cL_isShot 203 = .ok (.if_icmp .ne 89, 3) := by decide +kernel
theorem dL_isShot_206 : decode cL_isShot 206 = .ok (.aload_n 0, 1) := by decide +kernel
theorem dL_isShot_207 : decode cL_isShot 207 = .ok (.iload_n 1, 1) := by decide +kernel
theorem dL_isShot_208 : decode cL_isShot 208 = .ok (.iload_n 2, 1) := by decide +kernel
theorem dL_isShot_209 : decode cL_isShot 209 = .ok (.iconst 3, 1) := by decide +kernel
theorem dL_isShot_210 : decode cL_isShot 210 = .ok (.invokevirtual 113, 3) := by decide +kernel
theorem dL_isShot_213 : decode cL_isShot 213 = .ok (.iload_n 1, 1) := by decide +kernel
theorem dL_isShot_214 : decode cL_isShot 214 = .ok (.iload_n 2, 1) := by decide +kernel
theorem dL_isShot_215 : decode cL_isShot 215 = .ok (.aload 8, 2) := by decide +kernel
theorem dL_isShot_217 : decode cL_isShot 217 = .ok (.iload 10, 2) := by decide +kernel
theorem dL_isShot_219 : decode cL_isShot 219 = .ok (.iaload, 1) := by decide +kernel
theorem dL_isShot_220 : decode cL_isShot 220 = .ok (.aload 4, 2) := by decide +kernel
theorem dL_isShot_222 : decode cL_isShot 222 = .ok (.aload 6, 2) := by decide +kernel
theorem dL_isShot_224 : decode cL_isShot 224 = .ok (.invokestatic 10, 3) := by decide +kernel
theorem dL_isShot_227 : decode cL_isShot 227 = .ok (.if_icmp .ne 65, 3) := by decide +kernel
theorem dL_isShot_230 : decode cL_isShot 230 = .ok (.aload_n 0, 1) := by decide +kernel
theorem dL_isShot_231 : decode cL_isShot 231 = .ok (.iload_n 1, 1) := by decide +kernel
theorem dL_isShot_232 : decode cL_isShot 232 = .ok (.iload_n 2, 1) := by decide +kernel
theorem dL_isShot_233 : decode cL_isShot 233 = .ok (.iconst 4, 1) := by decide +kernel
theorem dL_isShot_234 : decode cL_isShot 234 = .ok (.invokevirtual 113, 3) := by decide +kernel
theorem dL_isShot_237 : decode cL_isShot 237 = .ok (.iload_n 1, 1) := by decide +kernel
theorem dL_isShot_238 : decode cL_isShot 238 = .ok (.iload_n 2, 1) := by decide +kernel
theorem dL_isShot_239 : decode cL_isShot 239 = .ok (.aload 4, 2) := by decide +kernel
theorem dL_isShot_241 : decode cL_isShot 241 = .ok (.aload 6, 2) := by decide +kernel
theorem dL_isShot_243 : decode cL_isShot 243 = .ok (.aload 7, 2) := by decide +kernel
theorem dL_isShot_245 : decode cL_isShot 245 = .ok (.aload 8, 2) := by decide +kernel
theorem dL_isShot_247 : decode cL_isShot 247 = .ok (.invokestatic 32, 3) := by decide +kernel
theorem dL_isShot_250 : decode cL_isShot 250 = .ok (.bipush 100, 2) := by decide +kernel
theorem dL_isShot_252 : decode cL_isShot 252 = .ok (.iadd, 1) := by decide +kernel
theorem dL_isShot_253 : decode cL_isShot 253 = .ok (.if_icmp .ne 39, 3) := by decide +kernel
theorem dL_isShot_256 : decode cL_isShot 256 = .ok (.aload_n 0, 1) := by decide +kernel
theorem dL_isShot_257 : decode cL_isShot 257 = .ok (.iload_n 1, 1) := by decide +kernel
theorem dL_isShot_258 : decode cL_isShot 258 = .ok (.iload_n 2, 1) := by decide +kernel
theorem dL_isShot_259 : decode cL_isShot 259 = .ok (.iconst 5, 1) := by decide +kernel
theorem dL_isShot_260 : decode cL_isShot 260 = .ok (.invokevirtual 113, 3) := by decide +kernel
theorem dL_isShot_263 : decode cL_isShot 263 = .ok (.aload 9, 2) := by decide +kernel
theorem dL_isShot_265 : decode cL_isShot 265 = .ok (.iload 10, 2) := by decide +kernel
theorem dL_isShot_267 : decode cL_isShot 267 = .ok (.iaload, 1) := by decide +kernel
theorem dL_isShot_268 : decode cL_isShot 268 = .ok (.ifCond .le 15, 3) := by decide +kernel
theorem dL_isShot_271 : decode cL_isShot 271 = .ok (.aload 9, 2) := by decide +kernel
theorem dL_isShot_273 : decode cL_isShot 273 = .ok (.iload 10, 2) := by decide +kernel
theorem dL_isShot_275 : decode cL_isShot 275 = .ok (.iaload, 1) := by decide +kernel
theorem dL_isShot_276 : decode cL_isShot 276 = .ok (.sipush 900, 3) := by decide +kernel
theorem dL_isShot_279 : decode cL_isShot 279 = .ok (.isub, 1) := by decide +kernel
theorem dL_isShot_280 : decode cL_isShot 280 = .ok (.goto 5, 3) := by decide +kernel
theorem dL_isShot_283 : decode cL_isShot 283 = .ok (.bipush (-6), 2) := by decide +kernel
theorem dL_isShot_285 : decode cL_isShot 285 = .ok (.if_icmp .ne 7, 3) := by decide +kernel
theorem dL_isShot_288 : decode cL_isShot 288 = .ok (.iconst 1, 1) := by decide +kernel
theorem dL_isShot_289 : decode cL_isShot 289 = .ok (.goto 4, 3) := by decide +kernel
theorem dL_isShot_292 : decode cL_isShot 292 = .ok (.iconst 0, 1) := by decide +kernel
theorem dL_isShot_293 : decode cL_isShot 293 = .ok (.istore 12, 2) := by decide +kernel
theorem dL_isShot_295 : decode cL_isShot 295 = .ok (.iload 12, 2) := by decide +kernel
theorem dL_isShot_297 : decode cL_isShot 297 = .ok (.ifCond .eq 65, 3) := by decide +kernel
theorem dL_isShot_300 : decode cL_isShot 300 = .ok (.aload_n 0, 1) := by decide +kernel
theorem dL_isShot_301 : decode cL_isShot 301 = .ok (.iload_n 1, 1) := by decide +kernel
theorem dL_isShot_302 : decode cL_isShot 302 = .ok (.iload_n 2, 1) := by decide +kernel
theorem dL_isShot_303 : decode cL_isShot 303 = .ok (.invokevirtual 116, 3) := by decide +kernel
theorem dL_isShot_306 : decode cL_isShot 306 = .ok (.iload 11, 2) := by decide +kernel
theorem dL_isShot_308 : decode cL_isShot 308 = .ok (.ifCond .lt 10, 3) := by decide +kernel
theorem dL_isShot_311 : decode cL_isShot 311 = .ok (.iload 11, 2) := by decide +kernel
theorem dL_isShot_313 : decode cL_isShot 313 = .ok (.bipush 50, 2) := by decide +kernel
theorem dL_isShot_315 : decode cL_isShot 315 = .ok (.if_icmp .le 8, 3) := by decide +kernel
theorem dL_isShot_318 : decode cL_isShot 318 = .ok (.bipush (-6), 2) := by decide +kernel
theorem dL_isShot_320 : decode cL_isShot 320 = .ok (.goto 5, 3) := by decide +kernel
theorem dL_isShot_323 : decode cL_isShot 323 = .ok (.iload 11, 2) := by decide +kernel
theorem dL_isShot_325 : decode cL_isShot 325 = .ok (.if_icmp .ne 37, 3) := by decide +kernel
theorem dL_isShot_328 : decode cL_isShot 328 = .ok (.aload_n 0, 1) := by decide +kernel
theorem dL_isShot_329 : decode cL_isShot 329 = .ok (.iload_n 1, 1) := by decide +kernel
theorem dL_isShot_330 : decode cL_isShot 330 = .ok (.iload_n 2, 1) := by decide +kernel
theorem dL_isShot_331 : decode cL_isShot 331 = .ok (.iload_n 3, 1) := by decide +kernel
theorem dL_isShot_332 : decode cL_isShot 332 = .ok (.bipush 51, 2) := by decide +kernel
theorem dL_isShot_334 : decode cL_isShot 334 = .ok (.invokestatic 40, 3) := by decide +kernel
theorem dL_isShot_337 : decode cL_isShot 337 = .ok (.invokevirtual 119, 3) := by decide +kernel
theorem dL_isShot_340 : decode cL_isShot 340 = .ok (.iload_n 1, 1) := by decide +kernel
theorem dL_isShot_341 : decode cL_isShot 341 = .ok (.iload_n 2, 1) := by decide +kernel
theorem dL_isShot_342 : decode cL_isShot 342 = .ok (.iload_n 3, 1) := by decide +kernel
theorem dL_isShot_343 : decode cL_isShot 343 = .ok (.bipush 51, 2) := by decide +kernel
theorem dL_isShot_345 : decode cL_isShot 345 = .ok (.invokestatic 40, 3) := by decide +kernel
theorem dL_isShot_348 : decode cL_isShot 348 = .ok (.aload 4, 2) := by decide +kernel
theorem dL_isShot_350 : decode cL_isShot 350 = .ok (.aload 6, 2) := by decide +kernel
theorem dL_isShot_352 : decode cL_isShot 352 = .ok (.invokestatic 10, 3) := by decide +kernel
theorem dL_isShot_355 : decode cL_isShot 355 = .ok (.if_icmp .ne 7, 3) := by decide +kernel
theorem dL_isShot_358 : decode cL_isShot 358 = .ok (.iconst 1, 1) := by decide +kernel
theorem dL_isShot_359 : decode cL_isShot 359 = .ok (.goto 4, 3) := by decide +kernel
theorem dL_isShot_362 : decode cL_isShot 362 = .ok (.iconst 0, 1) := by decide +kernel
theorem dL_isShot_363 : decode cL_isShot 363 = .ok (.ireturn, 1) := by decide +kernel
theorem dL_isBest_0 : decode cL_isBest 0 = .ok (.aload_n 2, 1) := by decide +kernel
theorem dL_isBest_1 : decode cL_isBest 1 = .ok (.bipush 10, 2) := by decide +kernel
theorem dL_isBest_3 : decode cL_isBest 3 = .ok (.iload_n 1, 1) := by decide +kernel
theorem dL_isBest_4 : decode cL_isBest 4 = .ok (.iadd, 1) := by decide +kernel
theorem dL_isBest_5 : decode cL_isBest 5 = .ok (.iaload, 1) := by decide +kernel
theorem dL_isBest_6 : decode cL_isBest 6 = .ok (.istore 6, 2) := by decide +kernel
theorem dL_isBest_8 : decode cL_isBest 8 = .ok (.iconst 0, 1) := by decide +kernel
theorem dL_isBest_9 : decode cL_isBest 9 = .ok (.istore 7, 2) := by decide +kernel
theorem dL_isBest_11 : decode cL_isBest 11 = .ok (.iconst (-1), 1) := by decide +kernel
theorem dL_isBest_12 : decode cL_isBest 12 = .ok (.istore 8, 2) := by decide +kernel
theorem dL_isBest_14 : decode cL_isBest 14 = .ok (.bipush (-20), 2) := by decide +kernel
theorem dL_isBest_16 : decode cL_isBest 16 = .ok (.istore 9, 2) := by decide +kernel
theorem dL_isBest_18 : decode cL_isBest 18 = .ok (.iload 9, 2) := by decide +kernel
theorem dL_isBest_20 : decode cL_isBest 20 = .ok (.bipush 20, 2) := by decide +kernel
theorem dL_isBest_22 : decode cL_isBest 22 = .ok (.if_icmp .gt 139, 3) := by decide +kernel
theorem dL_isBest_25 : decode cL_isBest 25 = .ok (.aload_n 2, 1) := by decide +kernel
theorem dL_isBest_26 : decode cL_isBest 26 = .ok (.bipush 10, 2) := by decide +kernel
theorem dL_isBest_28 : decode cL_isBest 28 = .ok (.iload_n 1, 1) := by decide +kernel
theorem dL_isBest_29 : decode cL_isBest 29 = .ok (.iadd, 1) := by decide +kernel
theorem dL_isBest_30 : decode cL_isBest 30 = .ok (.iload 9, 2) := by decide +kernel
theorem dL_isBest_32 : decode cL_isBest 32 = .ok (.iastore, 1) := by decide +kernel
theorem dL_isBest_33 : decode cL_isBest 33 = .ok (.iconst 0, 1) := by decide +kernel
theorem dL_isBest_34 : decode cL_isBest 34 = .ok (.istore 10, 2) := by decide +kernel
theorem dL_isBest_36 : decode cL_isBest 36 = .ok (.iconst 0, 1) := by decide +kernel
theorem dL_isBest_37 : decode cL_isBest 37 = .ok (.istore 11, 2) := by decide +kernel
theorem dL_isBest_39 : decode cL_isBest 39 = .ok (.iload 11, 2) := by decide +kernel
theorem dL_isBest_41 : decode cL_isBest 41 = .ok (.aload_n 2, 1) := by decide +kernel
theorem dL_isBest_42 : decode cL_isBest 42 = .ok (.iconst 4, 1) := by decide +kernel
theorem dL_isBest_43 : decode cL_isBest 43 = .ok (.iaload, 1) := by decide +kernel
theorem dL_isBest_44 : decode cL_isBest 44 = .ok (.if_icmp .ge 29, 3) := by decide +kernel
theorem dL_isBest_47 : decode cL_isBest 47 = .ok (.iload 10, 2) := by decide +kernel
theorem dL_isBest_49 : decode cL_isBest 49 = .ok (.iload 11, 2) := by decide +kernel
theorem dL_isBest_51 : decode cL_isBest 51 = .ok (.iload_n 1, 1) := by decide +kernel
theorem dL_isBest_52 : decode cL_isBest 52 = .ok (.aload_n 2, 1) := by decide +kernel
theorem dL_isBest_53 : decode cL_isBest 53 = .ok (.aload_n 3, 1) := by decide +kernel
theorem dL_isBest_54 : decode cL_isBest 54 = .ok (.aload 4, 2) := by decide +kernel
theorem dL_isBest_56 : decode cL_isBest 56 = .ok (.aload 5, 2) := by decide +kernel
theorem dL_isBest_58 : decode cL_isBest 58 = .ok (.invokestatic 32, 3) := by decide +kernel
theorem dL_isBest_61 : decode cL_isBest 61 = .ok (.invokestatic 16, 3) := by decide +kernel
theorem dL_isBest_64 : decode cL_isBest 64 = .ok (.iadd, 1) := by decide +kernel
theorem dL_isBest_65 : decode cL_isBest 65 = .ok (.istore 10, 2) := by decide +kernel
theorem dL_isBest_67 : decode cL_isBest 67 = .ok (.iinc 11 1, 3) := by decide +kernel
theorem dL_isBest_70 : decode cL_isBest 70 = .ok (.goto (-31), 3) := by decide +kernel
theorem dL_isBest_73 : decode cL_isBest 73 = .ok (.iload 9, 2) := by decide +kernel
theorem dL_isBest_75 : decode cL_isBest 75 = .ok (.invokestatic 16, 3) := by decide +kernel
theorem dL_isBest_78 : decode cL_isBest 78 = .ok (.iload 7, 2) := by decide +kernel
theorem dL_isBest_80 : decode cL_isBest 80 = .ok (.invokestatic 16, 3) := by decide +kernel
theorem dL_isBest_83 : decode cL_isBest 83 = .ok (.if_icmp .lt 11, 3) := by decide +kernel
theorem dL_isBest_86 : decode cL_isBest 86 = .ok (.iload 9, 2) := by decide +kernel
theorem dL_isBest_88 : decode cL_isBest 88 = .ok (.iload 7, 2) := by decide +kernel
theorem dL_isBest_90 : decode cL_isBest 90 = .ok (.ineg, 1) := by decide +kernel
theorem dL_isBest_91 : decode cL_isBest 91 = .ok (.if_icmp .ne 7, 3) := by decide +kernel
theorem dL_isBest_94 : decode cL_isBest 94 = .ok (.iconst 1, 1) := by decide +kernel
theorem dL_isBest_95 : decode cL_isBest 95 = .ok (.goto 4, 3) := by decide +kernel
theorem dL_isBest_98 : decode cL_isBest 98 = .ok (.iconst 0, 1) := by decide +kernel
theorem dL_isBest_99 : decode cL_isBest 99 = .ok (.istore 11, 2) := by decide +kernel
theorem dL_isBest_101 : decode cL_isBest 101 = .ok (.iload 8, 2) := by decide +kernel
theorem dL_isBest_103 : decode cL_isBest 103 = .ok (.ifCond .lt 22, 3) := by decide +kernel
theorem dL_isBest_106 : decode cL_isBest 106 = .ok (.iload 10, 2) := by decide +kernel
theorem dL_isBest_108 : decode cL_isBest 108 = .ok (.iload 8, 2) := by decide +kernel
theorem dL_isBest_110 : decode cL_isBest 110 = .ok (.if_icmp .lt 15, 3) := by decide +kernel
theorem dL_isBest_113 : decode cL_isBest 113 = .ok (.iload 10, 2) := by decide +kernel
theorem dL_isBest_115 : decode cL_isBest 115 = .ok (.iload 8, 2) := by decide +kernel
theorem dL_isBest_117 : decode cL_isBest 117 = .ok (.if_icmp .ne 13, 3) := by decide +kernel
theorem dL_isBest_120 : decode cL_isBest 120 = .ok (.iload 11, 2) := by decide +kernel
theorem dL_isBest_122 : decode cL_isBest 122 = .ok (.ifCond .eq 8, 3) := by decide +kernel
theorem dL_isBest_125 : decode cL_isBest 125 = .ok (.iload 9, 2) := by decide +kernel
theorem dL_isBest_127 : decode cL_isBest 127 = .ok (.goto 5, 3) := by decide +kernel
theorem dL_isBest_130 : decode cL_isBest 130 = .ok (.iload 7, 2) := by decide +kernel
theorem dL_isBest_132 : decode cL_isBest 132 = .ok (.istore 7, 2) := by decide +kernel
theorem dL_isBest_134 : decode cL_isBest 134 = .ok (.iload 8, 2) := by decide +kernel
theorem dL_isBest_136 : decode cL_isBest 136 = .ok (.ifCond .lt 10, 3) := by decide +kernel
theorem dL_isBest_139 : decode cL_isBest 139 = .ok (.iload 10, 2) := by decide +kernel
theorem dL_isBest_141 : decode cL_isBest 141 = .ok (.iload 8, 2) := by decide +kernel
theorem dL_isBest_143 : decode cL_isBest 143 = .ok (.if_icmp .ge 8, 3) := by decide +kernel
theorem dL_isBest_146 : decode cL_isBest 146 = .ok (.iload 10, 2) := by decide +kernel
theorem dL_isBest_148 : decode cL_isBest 148 = .ok (.goto 5, 3) := by decide +kernel
theorem dL_isBest_151 : decode cL_isBest 151 = .ok (.iload 8, 2) := by decide +kernel
theorem dL_isBest_153 : decode cL_isBest 153 = .ok (.istore 8, 2) := by decide +kernel
theorem dL_isBest_155 : decode cL_isBest 155 = .ok (.iinc 9 1, 3) := by decide +kernel
theorem dL_isBest_158 : decode cL_isBest 158 = .ok (.goto (-140), 3) := by decide +kernel
theorem dL_isBest_161 : decode cL_isBest 161 = .ok (.aload_n 2, 1) := by decide +kernel
theorem dL_isBest_162 : decode cL_isBest 162 = .ok (.bipush 10, 2) := by decide +kernel
theorem dL_isBest_164 : decode cL_isBest 164 = .ok (.iload_n 1, 1) := by decide +kernel
theorem dL_isBest_165 : decode cL_isBest 165 = .ok (.iadd, 1) := by decide +kernel
theorem dL_isBest_166 : decode cL_isBest 166 = .ok (.iload 6, 2) := by decide +kernel
theorem dL_isBest_168 : decode cL_isBest 168 = .ok (.iastore, 1) := by decide +kernel
theorem dL_isBest_169 : decode cL_isBest 169 = .ok (.aload_n 0, 1) := by decide +kernel
theorem dL_isBest_170 : decode cL_isBest 170 = .ok (.iload_n 1, 1) := by decide +kernel
theorem dL_isBest_171 : decode cL_isBest 171 = .ok (.iconst 0, 1) := by decide +kernel
theorem dL_isBest_172 : decode cL_isBest 172 = .ok (.invokevirtual 122, 3) := by decide +kernel
theorem dL_isBest_175 : decode cL_isBest 175 = .ok (.iload 7, 2) := by decide +kernel
theorem dL_isBest_177 : decode cL_isBest 177 = .ok (.bipush 20, 2) := by decide +kernel
theorem dL_isBest_179 : decode cL_isBest 179 = .ok (.iadd, 1) := by decide +kernel
theorem dL_isBest_180 : decode cL_isBest 180 = .ok (.if_icmp .ne 18, 3) := by decide +kernel
theorem dL_isBest_183 : decode cL_isBest 183 = .ok (.aload_n 0, 1) := by decide +kernel
theorem dL_isBest_184 : decode cL_isBest 184 = .ok (.iload_n 1, 1) := by decide +kernel
theorem dL_isBest_185 : decode cL_isBest 185 = .ok (.iconst 1, 1) := by decide +kernel
theorem dL_isBest_186 : decode cL_isBest 186 = .ok (.invokevirtual 122, 3) := by decide +kernel
theorem dL_isBest_189 : decode cL_isBest 189 = .ok (.iload 8, 2) := by decide +kernel
theorem dL_isBest_191 : decode cL_isBest 191 = .ok (.if_icmp .ne 7, 3) := by decide +kernel
theorem dL_isBest_194 : decode cL_isBest 194 = .ok (.iconst 1, 1) := by decide +kernel
theorem dL_isBest_195 : decode cL_isBest 195 = .ok (.goto 4, 3) := by decide +kernel
theorem dL_isBest_198 : decode cL_isBest 198 = .ok (.iconst 0, 1) := by decide +kernel
theorem dL_isBest_199 : decode cL_isBest 199 = .ok (.ireturn, 1) := by decide +kernel
theorem dL_isSo_0 : decode cL_isSo 0 = .ok (.iconst 0, 1) := by decide +kernel
theorem dL_isSo_1 : decode cL_isSo 1 = .ok (.istore 8, 2) := by decide +kernel
theorem dL_isSo_3 : decode cL_isSo 3 = .ok (.iconst 0, 1) := by decide +kernel
theorem dL_isSo_4 : decode cL_isSo 4 = .ok (.istore 9, 2) := by decide +kernel
theorem dL_isSo_6 : decode cL_isSo 6 = .ok (.iconst 0, 1) := by decide +kernel
theorem dL_isSo_7 : decode cL_isSo 7 = .ok (.istore 10, 2) := by decide +kernel
theorem dL_isSo_9 : decode cL_isSo 9 = .ok (.iconst 0, 1) := by decide +kernel
theorem dL_isSo_10 : decode cL_isSo 10 = .ok (.istore 11, 2) := by decide +kernel
theorem dL_isSo_12 : decode cL_isSo 12 = .ok (.iconst 0, 1) := by decide +kernel
theorem dL_isSo_13 : decode cL_isSo 13 = .ok (.istore 12, 2) := by decide +kernel
theorem dL_isSo_15 : decode cL_isSo 15 = .ok (.iload 12, 2) := by decide +kernel
theorem dL_isSo_17 : decode cL_isSo 17 = .ok (.aload_n 2, 1) := by decide +kernel
theorem dL_isSo_18 : decode cL_isSo 18 = .ok (.iconst 4, 1) := by decide +kernel
theorem dL_isSo_19 : decode cL_isSo 19 = .ok (.iaload, 1) := by decide +kernel
theorem dL_isSo_20 : decode cL_isSo 20 = .ok (.if_icmp .ge 133, 3) := by decide +kernel
theorem dL_isSo_23 : decode cL_isSo 23 = .ok (.iload 8, 2) := by decide +kernel
theorem dL_isSo_25 : decode cL_isSo 25 = .ok (.iload 12, 2) := by decide +kernel
theorem dL_isSo_27 : decode cL_isSo 27 = .ok (.aload_n 2, 1) := by decide +kernel
theorem dL_isSo_28 : decode cL_isSo 28 = .ok (.aload 7, 2) := by decide +kernel
theorem dL_isSo_30 : decode cL_isSo 30 = .ok (.invokestatic 36, 3) := by decide +kernel
theorem dL_isSo_33 : decode cL_isSo 33 = .ok (.ifCond .eq 10, 3) := by decide +kernel
theorem dL_isSo_36 : decode cL_isSo 36 = .ok (.iconst 1, 1) := by decide +kernel
theorem dL_isSo_37 : decode cL_isSo 37 = .ok (.iload 12, 2) := by decide +kernel
theorem dL_isSo_39 : decode cL_isSo 39 = .ok (.ishl, 1) := by decide +kernel
theorem dL_isSo_40 : decode cL_isSo 40 = .ok (.goto 4, 3) := by decide +kernel
theorem dL_isSo_43 : decode cL_isSo 43 = .ok (.iconst 0, 1) := by decide +kernel
theorem dL_isSo_44 : decode cL_isSo 44 = .ok (.ior, 1) := by decide +kernel
theorem dL_isSo_45 : decode cL_isSo 45 = .ok (.istore 8, 2) := by decide +kernel
theorem dL_isSo_47 : decode cL_isSo 47 = .ok (.iload 9, 2) := by decide +kernel
theorem dL_isSo_49 : decode cL_isSo 49 = .ok (.aload 7, 2) := by decide +kernel
theorem dL_isSo_51 : decode cL_isSo 51 = .ok (.iconst 3, 1) := by decide +kernel
theorem dL_isSo_52 : decode cL_isSo 52 = .ok (.iload 12, 2) := by decide +kernel
theorem dL_isSo_54 : decode cL_isSo 54 = .ok (.imul, 1) := by decide +kernel
theorem dL_isSo_55 : decode cL_isSo 55 = .ok (.iaload, 1) := by decide +kernel
theorem dL_isSo_56 : decode cL_isSo 56 = .ok (.ifCond .le 10, 3) := by decide +kernel
theorem dL_isSo_59 : decode cL_isSo 59 = .ok (.iconst 1, 1) := by decide +kernel
theorem dL_isSo_60 : decode cL_isSo 60 = .ok (.iload 12, 2) := by decide +kernel
theorem dL_isSo_62 : decode cL_isSo 62 = .ok (.ishl, 1) := by decide +kernel
theorem dL_isSo_63 : decode cL_isSo 63 = .ok (.goto 4, 3) := by decide +kernel
theorem dL_isSo_66 : decode cL_isSo 66 = .ok (.iconst 0, 1) := by decide +kernel
theorem dL_isSo_67 : decode cL_isSo 67 = .ok (.ior, 1) := by decide +kernel
theorem dL_isSo_68 : decode cL_isSo 68 = .ok (.istore 9, 2) := by decide +kernel
theorem dL_isSo_70 : decode cL_isSo 70 = .ok (.iload 10, 2) := by decide +kernel
theorem dL_isSo_72 : decode cL_isSo 72 = .ok (.iload 12, 2) := by decide +kernel
theorem dL_isSo_74 : decode cL_isSo 74 = .ok (.aload_n 2, 1) := by decide +kernel
theorem dL_isSo_75 : decode cL_isSo 75 = .ok (.aload 4, 2) := by decide +kernel
theorem dL_isSo_77 : decode cL_isSo 77 = .ok (.aload 6, 2) := by decide +kernel
theorem dL_isSo_79 : decode cL_isSo 79 = .ok (.invokestatic 109, 3) := by decide +kernel
theorem dL_isSo_82 : decode cL_isSo 82 = .ok (.ifCond .eq 10, 3) := by decide +kernel
theorem dL_isSo_85 : decode cL_isSo 85 = .ok (.iconst 1, 1) := by decide +kernel
theorem dL_isSo_86 : decode cL_isSo 86 = .ok (.iload 12, 2) := by decide +kernel
theorem dL_isSo_88 : decode cL_isSo 88 = .ok (.ishl, 1) := by decide +kernel
theorem dL_isSo_89 : decode cL_isSo 89 = .ok (.goto 4, 3) := by decide +kernel
theorem dL_isSo_92 : decode cL_isSo 92 = .ok (.iconst 0, 1) := by decide +kernel
theorem dL_isSo_93 : decode cL_isSo 93 = .ok (.ior, 1) := by decide +kernel
theorem dL_isSo_94 : decode cL_isSo 94 = .ok (.istore 10, 2) := by decide +kernel
theorem dL_isSo_96 : decode cL_isSo 96 = .ok (.iconst 0, 1) := by decide +kernel
theorem dL_isSo_97 : decode cL_isSo 97 = .ok (.istore 13, 2) := by decide +kernel
theorem dL_isSo_99 : decode cL_isSo 99 = .ok (.iload 13, 2) := by decide +kernel
theorem dL_isSo_101 : decode cL_isSo 101 = .ok (.iconst 3, 1) := by decide +kernel
theorem dL_isSo_102 : decode cL_isSo 102 = .ok (.if_icmp .ge 45, 3) := by decide +kernel
theorem dL_isSo_105 : decode cL_isSo 105 = .ok (.iload 11, 2) := by decide +kernel
theorem dL_isSo_107 : decode cL_isSo 107 = .ok (.iload 12, 2) := by decide +kernel
theorem dL_isSo_109 : decode cL_isSo 109 = .ok (.iload 13, 2) := by decide +kernel
theorem dL_isSo_111 : decode cL_isSo 111 = .ok (.aload_n 2, 1) := by decide +kernel
theorem dL_isSo_112 : decode cL_isSo 112 = .ok (.aload 4, 2) := by decide +kernel
theorem dL_isSo_114 : decode cL_isSo 114 = .ok (.aload 5, 2) := by decide +kernel
theorem dL_isSo_116 : decode cL_isSo 116 = .ok (.aload 6, 2) := by decide +kernel
theorem dL_isSo_118 : decode cL_isSo 118 = .ok (.invokestatic 32, 3) := by decide +kernel
theorem dL_isSo_121 : decode cL_isSo 121 = .ok (.invokestatic 16, 3) := by decide +kernel
theorem dL_isSo_124 : decode cL_isSo 124 = .ok (.aload_n 2, 1) := by decide +kernel
theorem dL_isSo_125 : decode cL_isSo 125 = .ok (.iconst 1, 1) := by decide +kernel
theorem dL_isSo_126 : decode cL_isSo 126 = .ok (.iaload, 1) := by decide +kernel
theorem dL_isSo_127 : decode cL_isSo 127 = .ok (.if_icmp .le 10, 3) := by decide +kernel
theorem dL_isSo_130 : decode cL_isSo 130 = .ok (.iconst 1, 1) := by decide +kernel
theorem dL_isSo_131 : decode cL_isSo 131 = .ok (.iload 12, 2) := by decide +kernel
theorem dL_isSo_133 : decode cL_isSo 133 = .ok (.ishl, 1) := by decide +kernel
theorem dL_isSo_134 : decode cL_isSo 134 = .ok (.goto 4, 3) := by decide +kernel
theorem dL_isSo_137 : decode cL_isSo 137 = .ok (.iconst 0, 1) := by decide +kernel
theorem dL_isSo_138 : decode cL_isSo 138 = .ok (.ior, 1) := by decide +kernel
theorem dL_isSo_139 : decode cL_isSo 139 = .ok (.istore 11, 2) := by decide +kernel
theorem dL_isSo_141 : decode cL_isSo 141 = .ok (.iinc 13 1, 3) := by decide +kernel
theorem dL_isSo_144 : decode cL_isSo 144 = .ok (.goto (-45), 3) := by decide +kernel
theorem dL_isSo_147 : decode cL_isSo 147 = .ok (.iinc 12 1, 3) := by decide +kernel
theorem dL_isSo_150 : decode cL_isSo 150 = .ok (.goto (-135), 3) := by decide +kernel
theorem dL_isSo_153 : decode cL_isSo 153 = .ok (.iload_n 1, 1) := by decide +kernel
theorem dL_isSo_154 : decode cL_isSo 154 = .ok (.iconst 3, 1) := by decide +kernel
theorem dL_isSo_155 : decode cL_isSo 155 = .ok (.invokestatic 40, 3) := by decide +kernel
theorem dL_isSo_158 : decode cL_isSo 158 = .ok (.istore 12, 2) := by decide +kernel
theorem dL_isSo_160 : decode cL_isSo 160 = .ok (.aload_n 0, 1) := by decide +kernel
theorem dL_isSo_161 : decode cL_isSo 161 = .ok (.iconst 0, 1) := by decide +kernel
theorem dL_isSo_162 : decode cL_isSo 162 = .ok (.invokevirtual 125, 3) := by decide +kernel
theorem dL_isSo_165 : decode cL_isSo 165 = .ok (.aload_n 2, 1) := by decide +kernel
theorem dL_isSo_166 : decode cL_isSo 166 = .ok (.iconst 4, 1) := by decide +kernel
theorem dL_isSo_167 : decode cL_isSo 167 = .ok (.iaload, 1) := by decide +kernel
theorem dL_isSo_168 : decode cL_isSo 168 = .ok (.if_icmp .ne 148, 3) := by decide +kernel
theorem dL_isSo_171 : decode cL_isSo 171 = .ok (.aload_n 0, 1) := by decide +kernel
theorem dL_isSo_172 : decode cL_isSo 172 = .ok (.iconst 1, 1) := by decide +kernel
theorem dL_isSo_173 : decode cL_isSo 173 = .ok (.invokevirtual 125, 3) := by decide +kernel
theorem dL_isSo_176 : decode cL_isSo 176 = .ok (.aload_n 2, 1) := by decide +kernel
theorem dL_isSo_177 : decode cL_isSo 177 = .ok (.iconst 4, 1) := by decide +kernel
theorem dL_isSo_178 : decode cL_isSo 178 = .ok (.iaload, 1) := by decide +kernel
theorem dL_isSo_179 : decode cL_isSo 179 = .ok (.aload_n 3, 1) := by decide +kernel
theorem dL_isSo_180 : decode cL_isSo 180 = .ok (.invokestatic 28, 3) := by decide +kernel
theorem dL_isSo_183 : decode cL_isSo 183 = .ok (.if_icmp .ne 133, 3) := by decide +kernel
theorem dL_isSo_186 : decode cL_isSo 186 = .ok (.aload_n 0, 1) := by decide +kernel
theorem dL_isSo_187 : decode cL_isSo 187 = .ok (.iconst 2, 1) := by decide +kernel
theorem dL_isSo_188 : decode cL_isSo 188 = .ok (.invokevirtual 125, 3) := by decide +kernel
theorem dL_isSo_191 : decode cL_isSo 191 = .ok (.aload_n 2, 1) := by decide +kernel
theorem dL_isSo_192 : decode cL_isSo 192 = .ok (.iconst 5, 1) := by decide +kernel
theorem dL_isSo_193 : decode cL_isSo 193 = .ok (.iaload, 1) := by decide +kernel
theorem dL_isSo_194 : decode cL_isSo 194 = .ok (.if_icmp .ne 122, 3) := by decide +kernel
theorem dL_isSo_197 : decode cL_isSo 197 = .ok (.aload_n 0, 1) := by decide +kernel
theorem dL_isSo_198 : decode cL_isSo 198 = .ok (.iconst 3, 1) := by decide +kernel
theorem dL_isSo_199 : decode cL_isSo 199 = .ok (.invokevirtual 125, 3) := by decide +kernel
theorem dL_isSo_202 : decode cL_isSo 202 = .ok (.iload 8, 2) := by decide +kernel
theorem dL_isSo_204 : decode cL_isSo 204 = .ok (.if_icmp .ne 112, 3) := by decide +kernel
theorem dL_isSo_207 : decode cL_isSo 207 = .ok (.aload_n 0, 1) := by decide +kernel
theorem dL_isSo_208 : decode cL_isSo 208 = .ok (.iconst 4, 1) := by decide +kernel
theorem dL_isSo_209 : decode cL_isSo 209 = .ok (.invokevirtual 125, 3) := by decide +kernel
theorem dL_isSo_212 : decode cL_isSo 212 = .ok (.iload 9, 2) := by decide +kernel
theorem dL_isSo_214 : decode cL_isSo 214 = .ok (.if_icmp .ne 102, 3) := by decide +kernel
theorem dL_isSo_217 : decode cL_isSo 217 = .ok (.aload_n 0, 1) := by decide +kernel
theorem dL_isSo_218 : decode cL_isSo 218 = .ok (.iconst 5, 1) := by decide +kernel
theorem dL_isSo_219 : decode cL_isSo 219 = .ok (.invokevirtual 125, 3) := by decide +kernel
theorem dL_isSo_222 : decode cL_isSo 222 = .ok (.iload 10, 2) := by decide +kernel
theorem dL_isSo_224 : decode cL_isSo 224 = .ok (.if_icmp .ne 92, 3) := by decide +kernel
theorem dL_isSo_227 : decode cL_isSo 227 = .ok (.aload_n 0, 1) := by decide +kernel
theorem dL_isSo_228 : decode cL_isSo 228 = .ok (.bipush 6, 2) := by decide +kernel
theorem dL_isSo_230 : decode cL_isSo 230 = .ok (.invokevirtual 125, 3) := by decide +kernel
theorem dL_isSo_233 : decode cL_isSo 233 = .ok (.aload_n 2, 1) := by decide +kernel
theorem dL_isSo_234 : decode cL_isSo 234 = .ok (.bipush 6, 2) := by decide +kernel
theorem dL_isSo_236 : decode cL_isSo 236 = .ok (.iaload, 1) := by decide +kernel
theorem dL_isSo_237 : decode cL_isSo 237 = .ok (.if_icmp .ne 79, 3) := by decide +kernel
theorem dL_isSo_240 : decode cL_isSo 240 = .ok (.aload_n 0, 1) := by decide +kernel
theorem dL_isSo_241 : decode cL_isSo 241 = .ok (.bipush 7, 2) := by decide +kernel
theorem dL_isSo_243 : decode cL_isSo 243 = .ok (.invokevirtual 125, 3) := by decide +kernel
theorem dL_isSo_246 : decode cL_isSo 246 = .ok (.iload 11, 2) := by decide +kernel
theorem dL_isSo_248 : decode cL_isSo 248 = .ok (.if_icmp .ne 68, 3) := by decide +kernel
theorem dL_isSo_251 : decode cL_isSo 251 = .ok (.aload_n 0, 1) := by decide +kernel
theorem dL_isSo_252 : decode cL_isSo 252 = .ok (.iload 12, 2) := by decide +kernel
theorem dL_isSo_254 : decode cL_isSo 254 = .ok (.iconst 0, 1) := by decide +kernel
theorem dL_isSo_255 : decode cL_isSo 255 = .ok (.invokevirtual 128, 3) := by decide +kernel
theorem dL_isSo_258 : decode cL_isSo 258 = .ok (.aload_n 2, 1) := by decide +kernel
theorem dL_isSo_259 : decode cL_isSo 259 = .ok (.bipush 7, 2) := by decide +kernel
theorem dL_isSo_261 : decode cL_isSo 261 = .ok (.iload 12, 2) := by decide +kernel
theorem dL_isSo_263 : decode cL_isSo 263 = .ok (.iadd, 1) := by decide +kernel
theorem dL_isSo_264 : decode cL_isSo 264 = .ok (.iaload, 1) := by decide +kernel
theorem dL_isSo_265 : decode cL_isSo 265 = .ok (.if_icmp .ne 51, 3) := by decide +kernel
theorem dL_isSo_268 : decode cL_isSo 268 = .ok (.aload_n 0, 1) := by decide +kernel
theorem dL_isSo_269 : decode cL_isSo 269 = .ok (.iload 12, 2) := by decide +kernel
theorem dL_isSo_271 : decode cL_isSo 271 = .ok (.iconst 1, 1) := by decide +kernel
theorem dL_isSo_272 : decode cL_isSo 272 = .ok (.invokevirtual 128, 3) := by decide +kernel
theorem dL_isSo_275 : decode cL_isSo 275 = .ok (.aload_n 2, 1) := by decide +kernel
theorem dL_isSo_276 : decode cL_isSo 276 = .ok (.bipush 7, 2) := by decide +kernel
theorem dL_isSo_278 : decode cL_isSo 278 = .ok (.iload 12, 2) := by decide +kernel
theorem dL_isSo_280 : decode cL_isSo 280 = .ok (.iadd, 1) := by decide +kernel
theorem dL_isSo_281 : decode cL_isSo 281 = .ok (.iaload, 1) := by decide +kernel
theorem dL_isSo_282 : decode cL_isSo 282 = .ok (.aload_n 2, 1) := by decide +kernel
theorem dL_isSo_283 : decode cL_isSo 283 = .ok (.iconst 3, 1) := by decide +kernel
theorem dL_isSo_284 : decode cL_isSo 284 = .ok (.iaload, 1) := by decide +kernel
theorem dL_isSo_285 : decode cL_isSo 285 = .ok (.imul, 1) := by decide +kernel
theorem dL_isSo_286 : decode cL_isSo 286 = .ok (.bipush 100, 2) := by decide +kernel
theorem dL_isSo_288 : decode cL_isSo 288 = .ok (.idiv, 1) := by decide +kernel
theorem dL_isSo_289 : decode cL_isSo 289 = .ok (.if_icmp .ne 27, 3) := by decide +kernel
theorem dL_isSo_292 : decode cL_isSo 292 = .ok (.aload_n 0, 1) := by decide +kernel
theorem dL_isSo_293 : decode cL_isSo 293 = .ok (.iload 12, 2) := by decide +kernel
theorem dL_isSo_295 : decode cL_isSo 295 = .ok (.iconst 2, 1) := by decide +kernel
theorem dL_isSo_296 : decode cL_isSo 296 = .ok (.invokevirtual 128, 3) := by decide +kernel
theorem dL_isSo_299 : decode cL_isSo 299 = .ok (.aload_n 2, 1) := by decide +kernel
theorem dL_isSo_300 : decode cL_isSo 300 = .ok (.bipush 10, 2) := by decide +kernel
theorem dL_isSo_302 : decode cL_isSo 302 = .ok (.iload 12, 2) := by decide +kernel
theorem dL_isSo_304 : decode cL_isSo 304 = .ok (.iadd, 1) := by decide +kernel
theorem dL_isSo_305 : decode cL_isSo 305 = .ok (.iaload, 1) := by decide +kernel
theorem dL_isSo_306 : decode cL_isSo 306 = .ok (.bipush 20, 2) := by decide +kernel
theorem dL_isSo_308 : decode cL_isSo 308 = .ok (.iadd, 1) := by decide +kernel
theorem dL_isSo_309 : decode cL_isSo 309 = .ok (.if_icmp .ne 7, 3) := by decide +kernel
theorem dL_isSo_312 : decode cL_isSo 312 = .ok (.iconst 1, 1) := by decide +kernel
theorem dL_isSo_313 : decode cL_isSo 313 = .ok (.goto 4, 3) := by decide +kernel
theorem dL_isSo_316 : decode cL_isSo 316 = .ok (.iconst 0, 1) := by decide +kernel
theorem dL_isSo_317 : decode cL_isSo 317 = .ok (.istore 13, 2) := by decide +kernel
theorem dL_isSo_319 : decode cL_isSo 319 = .ok (.iconst 0, 1) := by decide +kernel
theorem dL_isSo_320 : decode cL_isSo 320 = .ok (.istore 14, 2) := by decide +kernel
theorem dL_isSo_322 : decode cL_isSo 322 = .ok (.iload 14, 2) := by decide +kernel
theorem dL_isSo_324 : decode cL_isSo 324 = .ok (.iconst 4, 1) := by decide +kernel
theorem dL_isSo_325 : decode cL_isSo 325 = .ok (.if_icmp .ge 37, 3) := by decide +kernel
theorem dL_isSo_328 : decode cL_isSo 328 = .ok (.iload 13, 2) := by decide +kernel
theorem dL_isSo_330 : decode cL_isSo 330 = .ok (.ifCond .eq 23, 3) := by decide +kernel
theorem dL_isSo_333 : decode cL_isSo 333 = .ok (.aload_n 0, 1) := by decide +kernel
theorem dL_isSo_334 : decode cL_isSo 334 = .ok (.bipush 8, 2) := by decide +kernel
theorem dL_isSo_336 : decode cL_isSo 336 = .ok (.iload 14, 2) := by decide +kernel
theorem dL_isSo_338 : decode cL_isSo 338 = .ok (.iadd, 1) := by decide +kernel
theorem dL_isSo_339 : decode cL_isSo 339 = .ok (.invokevirtual 125, 3) := by decide +kernel
theorem dL_isSo_342 : decode cL_isSo 342 = .ok (.aload_n 2, 1) := by decide +kernel
theorem dL_isSo_343 : decode cL_isSo 343 = .ok (.iload 14, 2) := by decide +kernel
theorem dL_isSo_345 : decode cL_isSo 345 = .ok (.iaload, 1) := by decide +kernel
theorem dL_isSo_346 : decode cL_isSo 346 = .ok (.if_icmp .ne 7, 3) := by decide +kernel
theorem dL_isSo_349 : decode cL_isSo 349 = .ok (.iconst 1, 1) := by decide +kernel
theorem dL_isSo_350 : decode cL_isSo 350 = .ok (.goto 4, 3) := by decide +kernel
theorem dL_isSo_353 : decode cL_isSo 353 = .ok (.iconst 0, 1) := by decide +kernel
theorem dL_isSo_354 : decode cL_isSo 354 = .ok (.istore 13, 2) := by decide +kernel
theorem dL_isSo_356 : decode cL_isSo 356 = .ok (.iinc 14 1, 3) := by decide +kernel
theorem dL_isSo_359 : decode cL_isSo 359 = .ok (.goto (-37), 3) := by decide +kernel
theorem dL_isSo_362 : decode cL_isSo 362 = .ok (.iload 13, 2) := by decide +kernel
theorem dL_isSo_364 : decode cL_isSo 364 = .ok (.ifCond .eq 40, 3) := by decide +kernel
theorem dL_isSo_367 : decode cL_isSo 367 = .ok (.aload_n 0, 1) := by decide +kernel
theorem dL_isSo_368 : decode cL_isSo 368 = .ok (.aload_n 2, 1) := by decide +kernel
theorem dL_isSo_369 : decode cL_isSo 369 = .ok (.iconst 4, 1) := by decide +kernel
theorem dL_isSo_370 : decode cL_isSo 370 = .ok (.iaload, 1) := by decide +kernel
theorem dL_isSo_371 : decode cL_isSo 371 = .ok (.iconst 0, 1) := by decide +kernel
theorem dL_isSo_372 : decode cL_isSo 372 = .ok (.invokevirtual 106, 3) := by decide +kernel
theorem dL_isSo_375 : decode cL_isSo 375 = .ok (.iconst (-1), 1) := by decide +kernel
theorem dL_isSo_376 : decode cL_isSo 376 = .ok (.if_icmp .ne 28, 3) := by decide +kernel
theorem dL_isSo_379 : decode cL_isSo 379 = .ok (.aload_n 0, 1) := by decide +kernel
theorem dL_isSo_380 : decode cL_isSo 380 = .ok (.iload_n 1, 1) := by decide +kernel
theorem dL_isSo_381 : decode cL_isSo 381 = .ok (.iconst 3, 1) := by decide +kernel
theorem dL_isSo_382 : decode cL_isSo 382 = .ok (.ishr, 1) := by decide +kernel
theorem dL_isSo_383 : decode cL_isSo 383 = .ok (.iconst 3, 1) := by decide +kernel
theorem dL_isSo_384 : decode cL_isSo 384 = .ok (.invokestatic 40, 3) := by decide +kernel
theorem dL_isSo_387 : decode cL_isSo 387 = .ok (.aload_n 2, 1) := by decide +kernel
theorem dL_isSo_388 : decode cL_isSo 388 = .ok (.aload 4, 2) := by decide +kernel
theorem dL_isSo_390 : decode cL_isSo 390 = .ok (.aload 5, 2) := by decide +kernel
theorem dL_isSo_392 : decode cL_isSo 392 = .ok (.aload 6, 2) := by decide +kernel
theorem dL_isSo_394 : decode cL_isSo 394 = .ok (.invokestatic 131, 3) := by decide +kernel
theorem dL_isSo_397 : decode cL_isSo 397 = .ok (.ifCond .eq 7, 3) := by decide +kernel
theorem dL_isSo_400 : decode cL_isSo 400 = .ok (.iconst 1, 1) := by decide +kernel
theorem dL_isSo_401 : decode cL_isSo 401 = .ok (.goto 4, 3) := by decide +kernel
theorem dL_isSo_404 : decode cL_isSo 404 = .ok (.iconst 0, 1) := by decide +kernel
theorem dL_isSo_405 : decode cL_isSo 405 = .ok (.istore 13, 2) := by decide +kernel
theorem dL_isSo_407 : decode cL_isSo 407 = .ok (.iload 13, 2) := by decide +kernel
theorem dL_isSo_409 : decode cL_isSo 409 = .ok (.ifCond .eq 45, 3) := by decide +kernel
theorem dL_isSo_412 : decode cL_isSo 412 = .ok (.aload_n 2, 1) := by decide +kernel
theorem dL_isSo_413 : decode cL_isSo 413 = .ok (.iconst 4, 1) := by decide +kernel
theorem dL_isSo_414 : decode cL_isSo 414 = .ok (.iaload, 1) := by decide +kernel
theorem dL_isSo_415 : decode cL_isSo 415 = .ok (.ifCond .eq 35, 3) := by decide +kernel
theorem dL_isSo_418 : decode cL_isSo 418 = .ok (.aload_n 0, 1) := by decide +kernel
theorem dL_isSo_419 : decode cL_isSo 419 = .ok (.iload_n 1, 1) := by decide +kernel
theorem dL_isSo_420 : decode cL_isSo 420 = .ok (.iconst 5, 1) := by decide +kernel
theorem dL_isSo_421 : decode cL_isSo 421 = .ok (.ishr, 1) := by decide +kernel
theorem dL_isSo_422 : decode cL_isSo 422 = .ok (.aload_n 2, 1) := by decide +kernel
theorem dL_isSo_423 : decode cL_isSo 423 = .ok (.iconst 4, 1) := by decide +kernel
theorem dL_isSo_424 : decode cL_isSo 424 = .ok (.iaload, 1) := by decide +kernel
theorem dL_isSo_425 : decode cL_isSo 425 = .ok (.invokestatic 40, 3) := by decide +kernel
theorem dL_isSo_428 : decode cL_isSo 428 = .ok (.iload 12, 2) := by decide +kernel
theorem dL_isSo_430 : decode cL_isSo 430 = .ok (.iload_n 1, 1) := by decide +kernel
theorem dL_isSo_431 : decode cL_isSo 431 = .ok (.bipush 10, 2) := by decide +kernel
theorem dL_isSo_433 : decode cL_isSo 433 = .ok (.ishr, 1) := by decide +kernel
theorem dL_isSo_434 : decode cL_isSo 434 = .ok (.aload_n 2, 1) := by decide +kernel
theorem dL_isSo_435 : decode cL_isSo 435 = .ok (.aload_n 3, 1) := by decide +kernel
theorem dL_isSo_436 : decode cL_isSo 436 = .ok (.aload 4, 2) := by decide +kernel
theorem dL_isSo_438 : decode cL_isSo 438 = .ok (.aload 5, 2) := by decide +kernel
theorem dL_isSo_440 : decode cL_isSo 440 = .ok (.aload 6, 2) := by decide +kernel
theorem dL_isSo_442 : decode cL_isSo 442 = .ok (.aload 7, 2) := by decide +kernel
theorem dL_isSo_444 : decode cL_isSo 444 = .ok (.invokestatic 135, 3) := by decide +kernel
theorem dL_isSo_447 : decode cL_isSo 447 = .ok (.ifCond .eq 7, 3) := by decide +kernel
theorem dL_isSo_450 : decode cL_isSo 450 = .ok (.iconst 1, 1) := by decide +kernel
theorem dL_isSo_451 : decode cL_isSo 451 = .ok (.goto 4, 3) := by decide +kernel
theorem dL_isSo_454 : decode cL_isSo 454 = .ok (.iconst 0, 1) := by decide +kernel
theorem dL_isSo_455 : decode cL_isSo 455 = .ok (.ireturn, 1) := by decide +kernel
theorem dL_told_0 : decode cL_told 0 = .ok (.ldc2_w 139, 3) := by decide +kernel
theorem dL_told_3 : decode cL_told 3 = .ok (.lstore_n 1, 1) := by decide +kernel
theorem dL_told_4 : decode cL_told 4 = .ok (.iconst 0, 1) := by decide +kernel
theorem dL_told_5 : decode cL_told 5 = .ok (.istore_n 3, 1) := by decide +kernel
theorem dL_told_6 : decode cL_told 6 = .ok (.iload_n 3, 1) := by decide +kernel
theorem dL_told_7 : decode cL_told 7 = .ok (.bipush 12, 2) := by decide +kernel
theorem dL_told_9 : decode cL_told 9 = .ok (.if_icmp .ge 22, 3) := by decide +kernel
theorem dL_told_12 : decode cL_told 12 = .ok (.ldc2_w 141, 3) := by decide +kernel
theorem dL_told_15 : decode cL_told 15 = .ok (.lload_n 1, 1) := by decide +kernel
theorem dL_told_16 : decode cL_told 16 = .ok (.lmul, 1) := by decide +kernel
theorem dL_told_17 : decode cL_told 17 = .ok (.aload_n 0, 1) := by decide +kernel
theorem dL_told_18 : decode cL_told 18 = .ok (.iload_n 3, 1) := by decide +kernel
theorem dL_told_19 : decode cL_told 19 = .ok (.invokevirtual 125, 3) := by decide +kernel
theorem dL_told_22 : decode cL_told 22 = .ok (.i2l, 1) := by decide +kernel
theorem dL_told_23 : decode cL_told 23 = .ok (.ladd, 1) := by decide +kernel
theorem dL_told_24 : decode cL_told 24 = .ok (.lstore_n 1, 1) := by decide +kernel
theorem dL_told_25 : decode cL_told 25 = .ok (.iinc 3 1, 3) := by decide +kernel
theorem dL_told_28 : decode cL_told 28 = .ok (.goto (-22), 3) := by decide +kernel
theorem dL_told_31 : decode cL_told 31 = .ok (.iconst 0, 1) := by decide +kernel
theorem dL_told_32 : decode cL_told 32 = .ok (.istore_n 3, 1) := by decide +kernel
theorem dL_told_33 : decode cL_told 33 = .ok (.iload_n 3, 1) := by decide +kernel
theorem dL_told_34 : decode cL_told 34 = .ok (.bipush 9, 2) := by decide +kernel
theorem dL_told_36 : decode cL_told 36 = .ok (.if_icmp .ge 27, 3) := by decide +kernel
theorem dL_told_39 : decode cL_told 39 = .ok (.ldc2_w 141, 3) := by decide +kernel
theorem dL_told_42 : decode cL_told 42 = .ok (.lload_n 1, 1) := by decide +kernel
theorem dL_told_43 : decode cL_told 43 = .ok (.lmul, 1) := by decide +kernel
theorem dL_told_44 : decode cL_told 44 = .ok (.aload_n 0, 1) := by decide +kernel
theorem dL_told_45 : decode cL_told 45 = .ok (.iload_n 3, 1) := by decide +kernel
theorem dL_told_46 : decode cL_told 46 = .ok (.iconst 3, 1) := by decide +kernel
theorem dL_told_47 : decode cL_told 47 = .ok (.idiv, 1) := by decide +kernel
theorem dL_told_48 : decode cL_told 48 = .ok (.iload_n 3, 1) := by decide +kernel
theorem dL_told_49 : decode cL_told 49 = .ok (.iconst 3, 1) := by decide +kernel
theorem dL_told_50 : decode cL_told 50 = .ok (.irem, 1) := by decide +kernel
theorem dL_told_51 : decode cL_told 51 = .ok (.invokevirtual 128, 3) := by decide +kernel
theorem dL_told_54 : decode cL_told 54 = .ok (.i2l, 1) := by decide +kernel
theorem dL_told_55 : decode cL_told 55 = .ok (.ladd, 1) := by decide +kernel
theorem dL_told_56 : decode cL_told 56 = .ok (.lstore_n 1, 1) := by decide +kernel
theorem dL_told_57 : decode cL_told 57 = .ok (.iinc 3 1, 3) := by decide +kernel
theorem dL_told_60 : decode cL_told 60 = .ok (.goto (-27), 3) := by decide +kernel
theorem dL_told_63 : decode cL_told 63 = .ok (.iconst 0, 1) := by decide +kernel
theorem dL_told_64 : decode cL_told 64 = .ok (.istore_n 3, 1) := by decide +kernel
theorem dL_told_65 : decode cL_told 65 = .ok (.iload_n 3, 1) := by decide +kernel
theorem dL_told_66 : decode cL_told 66 = .ok (.iconst 3, 1) := by decide +kernel
theorem dL_told_67 : decode cL_told 67 = .ok (.aload_n 0, 1) := by decide +kernel
theorem dL_told_68 : decode cL_told 68 = .ok (.iconst 0, 1) := by decide +kernel
theorem dL_told_69 : decode cL_told 69 = .ok (.invokevirtual 125, 3) := by decide +kernel
theorem dL_told_72 : decode cL_told 72 = .ok (.imul, 1) := by decide +kernel
theorem dL_told_73 : decode cL_told 73 = .ok (.if_icmp .ge 63, 3) := by decide +kernel
theorem dL_told_76 : decode cL_told 76 = .ok (.iconst 0, 1) := by decide +kernel
theorem dL_told_77 : decode cL_told 77 = .ok (.istore 4, 2) := by decide +kernel
theorem dL_told_79 : decode cL_told 79 = .ok (.iload 4, 2) := by decide +kernel
theorem dL_told_81 : decode cL_told 81 = .ok (.bipush 6, 2) := by decide +kernel
theorem dL_told_83 : decode cL_told 83 = .ok (.if_icmp .ge 29, 3) := by decide +kernel
theorem dL_told_86 : decode cL_told 86 = .ok (.ldc2_w 141, 3) := by decide +kernel
theorem dL_told_89 : decode cL_told 89 = .ok (.lload_n 1, 1) := by decide +kernel
theorem dL_told_90 : decode cL_told 90 = .ok (.lmul, 1) := by decide +kernel
theorem dL_told_91 : decode cL_told 91 = .ok (.aload_n 0, 1) := by decide +kernel
theorem dL_told_92 : decode cL_told 92 = .ok (.iload_n 3, 1) := by decide +kernel
theorem dL_told_93 : decode cL_told 93 = .ok (.iconst 3, 1) := by decide +kernel
theorem dL_told_94 : decode cL_told 94 = .ok (.idiv, 1) := by decide +kernel
theorem dL_told_95 : decode cL_told 95 = .ok (.iload_n 3, 1) := by decide +kernel
theorem dL_told_96 : decode cL_told 96 = .ok (.iconst 3, 1) := by decide +kernel
theorem dL_told_97 : decode cL_told 97 = .ok (.irem, 1) := by decide +kernel
theorem dL_told_98 : decode cL_told 98 = .ok (.iload 4, 2) := by decide +kernel
theorem dL_told_100 : decode cL_told 100 = .ok (.invokevirtual 113, 3) := by decide +kernel
theorem dL_told_103 : decode cL_told 103 = .ok (.i2l, 1) := by decide +kernel
theorem dL_told_104 : decode cL_told 104 = .ok (.ladd, 1) := by decide +kernel
theorem dL_told_105 : decode cL_told 105 = .ok (.lstore_n 1, 1) := by decide +kernel
theorem dL_told_106 : decode cL_told 106 = .ok (.iinc 4 1, 3) := by decide +kernel
theorem dL_told_109 : decode cL_told 109 = .ok (.goto (-30), 3) := by decide +kernel
theorem dL_told_112 : decode cL_told 112 = .ok (.ldc2_w 141, 3) := by decide +kernel
theorem dL_told_115 : decode cL_told 115 = .ok (.lload_n 1, 1) := by decide +kernel
theorem dL_told_116 : decode cL_told 116 = .ok (.lmul, 1) := by decide +kernel
theorem dL_told_117 : decode cL_told 117 = .ok (.aload_n 0, 1) := by decide +kernel
theorem dL_told_118 : decode cL_told 118 = .ok (.iload_n 3, 1) := by decide +kernel
theorem dL_told_119 : decode cL_told 119 = .ok (.iconst 3, 1) := by decide +kernel
theorem dL_told_120 : decode cL_told 120 = .ok (.idiv, 1) := by decide +kernel
theorem dL_told_121 : decode cL_told 121 = .ok (.iload_n 3, 1) := by decide +kernel
theorem dL_told_122 : decode cL_told 122 = .ok (.iconst 3, 1) := by decide +kernel
theorem dL_told_123 : decode cL_told 123 = .ok (.irem, 1) := by decide +kernel
theorem dL_told_124 : decode cL_told 124 = .ok (.invokevirtual 106, 3) := by decide +kernel
theorem dL_told_127 : decode cL_told 127 = .ok (.i2l, 1) := by decide +kernel
theorem dL_told_128 : decode cL_told 128 = .ok (.ladd, 1) := by decide +kernel
theorem dL_told_129 : decode cL_told 129 = .ok (.lstore_n 1, 1) := by decide +kernel
theorem dL_told_130 : decode cL_told 130 = .ok (.iinc 3 1, 3) := by decide +kernel
theorem dL_told_133 : decode cL_told 133 = .ok (.goto (-68), 3) := by decide +kernel
theorem dL_told_136 : decode cL_told 136 = .ok (.lload_n 1, 1) := by decide +kernel
theorem dL_told_137 : decode cL_told 137 = .ok (.lreturn, 1) := by decide +kernel
theorem dL_law_0 : decode cL_law 0 = .ok (.new 45, 3) := by decide +kernel
theorem dL_law_3 : decode cL_law 3 = .ok (.dup, 1) := by decide +kernel
theorem dL_law_4 : decode cL_law 4 = .ok (.invokespecial 143, 3) := by decide +kernel
theorem dL_law_7 : decode cL_law 7 = .ok (.astore_n 1, 1) := by decide +kernel
theorem dL_law_8 : decode cL_law 8 = .ok (.bipush 13, 2) := by decide +kernel
theorem dL_law_10 : decode cL_law 10 = .ok (.newarray .int, 2) := by decide +kernel
theorem dL_law_12 : decode cL_law 12 = .ok (.astore_n 2, 1) := by decide +kernel
theorem dL_law_13 : decode cL_law 13 = .ok (.bipush 21, 2) := by decide +kernel
theorem dL_law_15 : decode cL_law 15 = .ok (.newarray .int, 2) := by decide +kernel
theorem dL_law_17 : decode cL_law 17 = .ok (.astore_n 3, 1) := by decide +kernel
theorem dL_law_18 : decode cL_law 18 = .ok (.bipush 63, 2) := by decide +kernel
theorem dL_law_20 : decode cL_law 20 = .ok (.newarray .int, 2) := by decide +kernel
theorem dL_law_22 : decode cL_law 22 = .ok (.astore 4, 2) := by decide +kernel
theorem dL_law_24 : decode cL_law 24 = .ok (.bipush 63, 2) := by decide +kernel
theorem dL_law_26 : decode cL_law 26 = .ok (.newarray .int, 2) := by decide +kernel
theorem dL_law_28 : decode cL_law 28 = .ok (.astore 5, 2) := by decide +kernel
theorem dL_law_30 : decode cL_law 30 = .ok (.bipush 63, 2) := by decide +kernel
theorem dL_law_32 : decode cL_law 32 = .ok (.newarray .int, 2) := by decide +kernel
theorem dL_law_34 : decode cL_law 34 = .ok (.astore 6, 2) := by decide +kernel
theorem dL_law_36 : decode cL_law 36 = .ok (.bipush 63, 2) := by decide +kernel
theorem dL_law_38 : decode cL_law 38 = .ok (.newarray .int, 2) := by decide +kernel
theorem dL_law_40 : decode cL_law 40 = .ok (.astore 7, 2) := by decide +kernel
theorem dL_law_42 : decode cL_law 42 = .ok (.aload_n 2, 1) := by decide +kernel
theorem dL_law_43 : decode cL_law 43 = .ok (.iconst 0, 1) := by decide +kernel
theorem dL_law_44 : decode cL_law 44 = .ok (.iconst 1, 1) := by decide +kernel
theorem dL_law_45 : decode cL_law 45 = .ok (.iastore, 1) := by decide +kernel
theorem dL_law_46 : decode cL_law 46 = .ok (.aload_n 2, 1) := by decide +kernel
theorem dL_law_47 : decode cL_law 47 = .ok (.iconst 1, 1) := by decide +kernel
theorem dL_law_48 : decode cL_law 48 = .ok (.iconst 1, 1) := by decide +kernel
theorem dL_law_49 : decode cL_law 49 = .ok (.iastore, 1) := by decide +kernel
theorem dL_law_50 : decode cL_law 50 = .ok (.aload_n 2, 1) := by decide +kernel
theorem dL_law_51 : decode cL_law 51 = .ok (.iconst 2, 1) := by decide +kernel
theorem dL_law_52 : decode cL_law 52 = .ok (.bipush 8, 2) := by decide +kernel
theorem dL_law_54 : decode cL_law 54 = .ok (.iastore, 1) := by decide +kernel
theorem dL_law_55 : decode cL_law 55 = .ok (.aload_n 2, 1) := by decide +kernel
theorem dL_law_56 : decode cL_law 56 = .ok (.iconst 3, 1) := by decide +kernel
theorem dL_law_57 : decode cL_law 57 = .ok (.bipush 10, 2) := by decide +kernel
theorem dL_law_59 : decode cL_law 59 = .ok (.iastore, 1) := by decide +kernel
theorem dL_law_60 : decode cL_law 60 = .ok (.iconst 0, 1) := by decide +kernel
theorem dL_law_61 : decode cL_law 61 = .ok (.istore 8, 2) := by decide +kernel
theorem dL_law_63 : decode cL_law 63 = .ok (.iload 8, 2) := by decide +kernel
theorem dL_law_65 : decode cL_law 65 = .ok (.bipush 44, 2) := by decide +kernel
theorem dL_law_67 : decode cL_law 67 = .ok (.if_icmp .ge 380, 3) := by decide +kernel
theorem dL_law_70 : decode cL_law 70 = .ok (.aload_n 0, 1) := by decide +kernel
theorem dL_law_71 : decode cL_law 71 = .ok (.iconst 2, 1) := by decide +kernel
theorem dL_law_72 : decode cL_law 72 = .ok (.iload 8, 2) := by decide +kernel
theorem dL_law_74 : decode cL_law 74 = .ok (.imul, 1) := by decide +kernel
theorem dL_law_75 : decode cL_law 75 = .ok (.invokestatic 144, 3) := by decide +kernel
theorem dL_law_78 : decode cL_law 78 = .ok (.istore 9, 2) := by decide +kernel
theorem dL_law_80 : decode cL_law 80 = .ok (.aload_n 0, 1) := by decide +kernel
theorem dL_law_81 : decode cL_law 81 = .ok (.iconst 2, 1) := by decide +kernel
theorem dL_law_82 : decode cL_law 82 = .ok (.iload 8, 2) := by decide +kernel
theorem dL_law_84 : decode cL_law 84 = .ok (.imul, 1) := by decide +kernel
theorem dL_law_85 : decode cL_law 85 = .ok (.iconst 1, 1) := by decide +kernel
theorem dL_law_86 : decode cL_law 86 = .ok (.iadd, 1) := by decide +kernel
theorem dL_law_87 : decode cL_law 87 = .ok (.invokestatic 144, 3) := by decide +kernel
theorem dL_law_90 : decode cL_law 90 = .ok (.istore 10, 2) := by decide +kernel
theorem dL_law_92 : decode cL_law 92 = .ok (.iload 9, 2) := by decide +kernel
theorem dL_law_94 : decode cL_law 94 = .ok (.bipush 30, 2) := by decide +kernel
theorem dL_law_96 : decode cL_law 96 = .ok (.invokestatic 40, 3) := by decide +kernel
theorem dL_law_99 : decode cL_law 99 = .ok (.istore 11, 2) := by decide +kernel
theorem dL_law_101 : decode cL_law 101 = .ok (.iload 8, 2) := by decide +kernel
theorem dL_law_103 : decode cL_law 103 = .ok (.iconst 4, 1) := by decide +kernel
theorem dL_law_104 : decode cL_law 104 = .ok (.if_icmp .lt 10, 3) := by decide +kernel
theorem dL_law_107 : decode cL_law 107 = .ok (.iload 11, 2) := by decide +kernel
theorem dL_law_109 : decode cL_law 109 = .ok (.bipush 6, 2) := by decide +kernel
theorem dL_law_111 : decode cL_law 111 = .ok (.if_icmp .ge 7, 3) := by decide +kernel
theorem dL_law_114 : decode cL_law 114 = .ok (.iconst 0, 1) := by decide +kernel
theorem dL_law_115 : decode cL_law 115 = .ok (.goto 99, 3) := by decide +kernel
theorem dL_law_118 : decode cL_law 118 = .ok (.iload 11, 2) := by decide +kernel
theorem dL_law_120 : decode cL_law 120 = .ok (.bipush 9, 2) := by decide +kernel
theorem dL_law_122 : decode cL_law 122 = .ok (.if_icmp .ge 7, 3) := by decide +kernel
theorem dL_law_125 : decode cL_law 125 = .ok (.iconst 1, 1) := by decide +kernel
theorem dL_law_126 : decode cL_law 126 = .ok (.goto 88, 3) := by decide +kernel
theorem dL_law_129 : decode cL_law 129 = .ok (.iload 11, 2) := by decide +kernel
theorem dL_law_131 : decode cL_law 131 = .ok (.bipush 12, 2) := by decide +kernel
theorem dL_law_133 : decode cL_law 133 = .ok (.if_icmp .ge 7, 3) := by decide +kernel
theorem dL_law_136 : decode cL_law 136 = .ok (.iconst 2, 1) := by decide +kernel
theorem dL_law_137 : decode cL_law 137 = .ok (.goto 77, 3) := by decide +kernel
theorem dL_law_140 : decode cL_law 140 = .ok (.iload 11, 2) := by decide +kernel
theorem dL_law_142 : decode cL_law 142 = .ok (.bipush 14, 2) := by decide +kernel
theorem dL_law_144 : decode cL_law 144 = .ok (.if_icmp .ge 7, 3) := by decide +kernel
theorem dL_law_147 : decode cL_law 147 = .ok (.iconst 3, 1) := by decide +kernel
theorem dL_law_148 : decode cL_law 148 = .ok (.goto 66, 3) := by decide +kernel
theorem dL_law_151 : decode cL_law 151 = .ok (.iload 11, 2) := by decide +kernel
theorem dL_law_153 : decode cL_law 153 = .ok (.bipush 16, 2) := by decide +kernel
theorem dL_law_155 : decode cL_law 155 = .ok (.if_icmp .ge 7, 3) := by decide +kernel
theorem dL_law_158 : decode cL_law 158 = .ok (.iconst 4, 1) := by decide +kernel
theorem dL_law_159 : decode cL_law 159 = .ok (.goto 55, 3) := by decide +kernel
theorem dL_law_162 : decode cL_law 162 = .ok (.iload 11, 2) := by decide +kernel
theorem dL_law_164 : decode cL_law 164 = .ok (.bipush 18, 2) := by decide +kernel
theorem dL_law_166 : decode cL_law 166 = .ok (.if_icmp .ge 7, 3) := by decide +kernel
theorem dL_law_169 : decode cL_law 169 = .ok (.iconst 5, 1) := by decide +kernel
theorem dL_law_170 : decode cL_law 170 = .ok (.goto 44, 3) := by decide +kernel
theorem dL_law_173 : decode cL_law 173 = .ok (.iload 11, 2) := by decide +kernel
theorem dL_law_175 : decode cL_law 175 = .ok (.bipush 22, 2) := by decide +kernel
theorem dL_law_177 : decode cL_law 177 = .ok (.if_icmp .ge 8, 3) := by decide +kernel
theorem dL_law_180 : decode cL_law 180 = .ok (.bipush 6, 2) := by decide +kernel
theorem dL_law_182 : decode cL_law 182 = .ok (.goto 32, 3) := by decide +kernel
theorem dL_law_185 : decode cL_law 185 = .ok (.iload 11, 2) := by decide +kernel
theorem dL_law_187 : decode cL_law 187 = .ok (.bipush 24, 2) := by decide +kernel
theorem dL_law_189 : decode cL_law 189 = .ok (.if_icmp .ge 8, 3) := by decide +kernel
theorem dL_law_192 : decode cL_law 192 = .ok (.bipush 7, 2) := by decide +kernel
theorem dL_law_194 : decode cL_law 194 = .ok (.goto 20, 3) := by decide +kernel
theorem dL_law_197 : decode cL_law 197 = .ok (.iload 11, 2) := by decide +kernel
theorem dL_law_199 : decode cL_law 199 = .ok (.bipush 26, 2) := by decide +kernel
theorem dL_law_201 : decode cL_law 201 = .ok (.if_icmp .ge 8, 3) := by decide +kernel
theorem dL_law_204 : decode cL_law 204 = .ok (.bipush 8, 2) := by decide +kernel
theorem dL_law_206 : decode cL_law 206 = .ok (.goto 8, 3) := by decide +kernel
theorem dL_law_209 : decode cL_law 209 = .ok (.iload 11, 2) := by decide +kernel
theorem dL_law_211 : decode cL_law 211 = .ok (.bipush 17, 2) := by decide +kernel
theorem dL_law_213 : decode cL_law 213 = .ok (.isub, 1) := by decide +kernel
theorem dL_law_214 : decode cL_law 214 = .ok (.istore 11, 2) := by decide +kernel
theorem dL_law_216 : decode cL_law 216 = .ok (.iload 11, 2) := by decide +kernel
theorem dL_law_218 : decode cL_law 218 = .ok (.bipush 12, 2) := by decide +kernel
theorem dL_law_220 : decode cL_law 220 = .ok (.if_icmp .ne 15, 3) := by decide +kernel
theorem dL_law_223 : decode cL_law 223 = .ok (.iload 8, 2) := by decide +kernel
theorem dL_law_225 : decode cL_law 225 = .ok (.iconst 3, 1) := by decide +kernel
theorem dL_law_226 : decode cL_law 226 = .ok (.irem, 1) := by decide +kernel
theorem dL_law_227 : decode cL_law 227 = .ok (.ifCond .le 8, 3) := by decide +kernel
theorem dL_law_230 : decode cL_law 230 = .ok (.bipush 13, 2) := by decide +kernel
theorem dL_law_232 : decode cL_law 232 = .ok (.goto 5, 3) := by decide +kernel
theorem dL_law_235 : decode cL_law 235 = .ok (.iload 11, 2) := by decide +kernel
theorem dL_law_237 : decode cL_law 237 = .ok (.istore 11, 2) := by decide +kernel
theorem dL_law_239 : decode cL_law 239 = .ok (.iload 11, 2) := by decide +kernel
theorem dL_law_241 : decode cL_law 241 = .ok (.ifCond .ne 19, 3) := by decide +kernel
theorem dL_law_244 : decode cL_law 244 = .ok (.iload 9, 2) := by decide +kernel
theorem dL_law_246 : decode cL_law 246 = .ok (.bipush 6, 2) := by decide +kernel
theorem dL_law_248 : decode cL_law 248 = .ok (.ishr, 1) := by decide +kernel
theorem dL_law_249 : decode cL_law 249 = .ok (.aload_n 2, 1) := by decide +kernel
theorem dL_law_250 : decode cL_law 250 = .ok (.iconst 4, 1) := by decide +kernel
theorem dL_law_251 : decode cL_law 251 = .ok (.iaload, 1) := by decide +kernel
theorem dL_law_252 : decode cL_law 252 = .ok (.iconst 1, 1) := by decide +kernel
theorem dL_law_253 : decode cL_law 253 = .ok (.iadd, 1) := by decide +kernel
theorem dL_law_254 : decode cL_law 254 = .ok (.invokestatic 40, 3) := by decide +kernel
theorem dL_law_257 : decode cL_law 257 = .ok (.goto 38, 3) := by decide +kernel
theorem dL_law_260 : decode cL_law 260 = .ok (.iload 9, 2) := by decide +kernel
theorem dL_law_262 : decode cL_law 262 = .ok (.bipush 6, 2) := by decide +kernel
theorem dL_law_264 : decode cL_law 264 = .ok (.ishr, 1) := by decide +kernel
theorem dL_law_265 : decode cL_law 265 = .ok (.iload 9, 2) := by decide +kernel
theorem dL_law_267 : decode cL_law 267 = .ok (.bipush 20, 2) := by decide +kernel
theorem dL_law_269 : decode cL_law 269 = .ok (.ishr, 1) := by decide +kernel
theorem dL_law_270 : decode cL_law 270 = .ok (.bipush 9, 2) := by decide +kernel
theorem dL_law_272 : decode cL_law 272 = .ok (.invokestatic 40, 3) := by decide +kernel
theorem dL_law_275 : decode cL_law 275 = .ok (.ifCond .eq 9, 3) := by decide +kernel
theorem dL_law_278 : decode cL_law 278 = .ok (.aload_n 2, 1) := by decide +kernel
theorem dL_law_279 : decode cL_law 279 = .ok (.iconst 4, 1) := by decide +kernel
theorem dL_law_280 : decode cL_law 280 = .ok (.iaload, 1) := by decide +kernel
theorem dL_law_281 : decode cL_law 281 = .ok (.ifCond .ne 8, 3) := by decide +kernel
theorem dL_law_284 : decode cL_law 284 = .ok (.bipush 21, 2) := by decide +kernel
theorem dL_law_286 : decode cL_law 286 = .ok (.goto 6, 3) := by decide +kernel
theorem dL_law_289 : decode cL_law 289 = .ok (.aload_n 2, 1) := by decide +kernel
theorem dL_law_290 : decode cL_law 290 = .ok (.iconst 4, 1) := by decide +kernel
theorem dL_law_291 : decode cL_law 291 = .ok (.iaload, 1) := by decide +kernel
theorem dL_law_292 : decode cL_law 292 = .ok (.invokestatic 40, 3) := by decide +kernel
theorem dL_law_295 : decode cL_law 295 = .ok (.istore 12, 2) := by decide +kernel
theorem dL_law_297 : decode cL_law 297 = .ok (.iload 9, 2) := by decide +kernel
theorem dL_law_299 : decode cL_law 299 = .ok (.bipush 11, 2) := by decide +kernel
theorem dL_law_301 : decode cL_law 301 = .ok (.ishr, 1) := by decide +kernel
theorem dL_law_302 : decode cL_law 302 = .ok (.iconst 3, 1) := by decide +kernel
theorem dL_law_303 : decode cL_law 303 = .ok (.invokestatic 40, 3) := by decide +kernel
theorem dL_law_306 : decode cL_law 306 = .ok (.istore 13, 2) := by decide +kernel
theorem dL_law_308 : decode cL_law 308 = .ok (.aload_n 1, 1) := by decide +kernel
theorem dL_law_309 : decode cL_law 309 = .ok (.invokestatic 148, 3) := by decide +kernel
theorem dL_law_312 : decode cL_law 312 = .ok (.lstore 14, 2) := by decide +kernel
theorem dL_law_314 : decode cL_law 314 = .ok (.aload_n 1, 1) := by decide +kernel
theorem dL_law_315 : decode cL_law 315 = .ok (.iload 11, 2) := by decide +kernel
theorem dL_law_317 : decode cL_law 317 = .ok (.iload 12, 2) := by decide +kernel
theorem dL_law_319 : decode cL_law 319 = .ok (.iload 13, 2) := by decide +kernel
theorem dL_law_321 : decode cL_law 321 = .ok (.iload 10, 2) := by decide +kernel
theorem dL_law_323 : decode cL_law 323 = .ok (.invokestatic 152, 3) := by decide +kernel
theorem dL_law_326 : decode cL_law 326 = .ok (.istore 16, 2) := by decide +kernel
theorem dL_law_328 : decode cL_law 328 = .ok (.iload 16, 2) := by decide +kernel
theorem dL_law_330 : decode cL_law 330 = .ok (.ifCond .ge 16, 3) := by decide +kernel
theorem dL_law_333 : decode cL_law 333 = .ok (.aload_n 1, 1) := by decide +kernel
theorem dL_law_334 : decode cL_law 334 = .ok (.invokestatic 148, 3) := by decide +kernel
theorem dL_law_337 : decode cL_law 337 = .ok (.lload 14, 2) := by decide +kernel
theorem dL_law_339 : decode cL_law 339 = .ok (.lcmp, 1) := by decide +kernel
theorem dL_law_340 : decode cL_law 340 = .ok (.ifCond .eq 52, 3) := by decide +kernel
theorem dL_law_343 : decode cL_law 343 = .ok (.goto 47, 3) := by decide +kernel
theorem dL_law_346 : decode cL_law 346 = .ok (.iload 9, 2) := by decide +kernel
theorem dL_law_348 : decode cL_law 348 = .ok (.bipush 24, 2) := by decide +kernel
theorem dL_law_350 : decode cL_law 350 = .ok (.ishr, 1) := by decide +kernel
theorem dL_law_351 : decode cL_law 351 = .ok (.iconst 3, 1) := by decide +kernel
theorem dL_law_352 : decode cL_law 352 = .ok (.iand, 1) := by decide +kernel
theorem dL_law_353 : decode cL_law 353 = .ok (.ifCond .ne 39, 3) := by decide +kernel
theorem dL_law_356 : decode cL_law 356 = .ok (.aload_n 1, 1) := by decide +kernel
theorem dL_law_357 : decode cL_law 357 = .ok (.invokevirtual 156, 3) := by decide +kernel
theorem dL_law_360 : decode cL_law 360 = .ok (.ifCond .lt 30, 3) := by decide +kernel
theorem dL_law_363 : decode cL_law 363 = .ok (.aload_n 1, 1) := by decide +kernel
theorem dL_law_364 : decode cL_law 364 = .ok (.invokestatic 148, 3) := by decide +kernel
theorem dL_law_367 : decode cL_law 367 = .ok (.lload 14, 2) := by decide +kernel
theorem dL_law_369 : decode cL_law 369 = .ok (.lcmp, 1) := by decide +kernel
theorem dL_law_370 : decode cL_law 370 = .ok (.ifCond .ne 20, 3) := by decide +kernel
theorem dL_law_373 : decode cL_law 373 = .ok (.aload_n 1, 1) := by decide +kernel
theorem dL_law_374 : decode cL_law 374 = .ok (.iload 11, 2) := by decide +kernel
theorem dL_law_376 : decode cL_law 376 = .ok (.iload 12, 2) := by decide +kernel
theorem dL_law_378 : decode cL_law 378 = .ok (.iload 13, 2) := by decide +kernel
theorem dL_law_380 : decode cL_law 380 = .ok (.iload 10, 2) := by decide +kernel
theorem dL_law_382 : decode cL_law 382 = .ok (.invokestatic 152, 3) := by decide +kernel
theorem dL_law_385 : decode cL_law 385 = .ok (.iload 16, 2) := by decide +kernel
theorem dL_law_387 : decode cL_law 387 = .ok (.if_icmp .eq 5, 3) := by decide +kernel
theorem dL_law_390 : decode cL_law 390 = .ok (.iconst 0, 1) := by decide +kernel
theorem dL_law_391 : decode cL_law 391 = .ok (.ireturn, 1) := by decide +kernel
theorem dL_law_392 : decode cL_law 392 = .ok (.iload 16, 2) := by decide +kernel
theorem dL_law_394 : decode cL_law 394 = .ok (.iload 11, 2) := by decide +kernel
theorem dL_law_396 : decode cL_law 396 = .ok (.iload 12, 2) := by decide +kernel
theorem dL_law_398 : decode cL_law 398 = .ok (.iload 13, 2) := by decide +kernel
theorem dL_law_400 : decode cL_law 400 = .ok (.iload 10, 2) := by decide +kernel
theorem dL_law_402 : decode cL_law 402 = .ok (.aload_n 2, 1) := by decide +kernel
theorem dL_law_403 : decode cL_law 403 = .ok (.aload_n 3, 1) := by decide +kernel
theorem dL_law_404 : decode cL_law 404 = .ok (.aload 4, 2) := by decide +kernel
theorem dL_law_406 : decode cL_law 406 = .ok (.aload 5, 2) := by decide +kernel
theorem dL_law_408 : decode cL_law 408 = .ok (.aload 6, 2) := by decide +kernel
theorem dL_law_410 : decode cL_law 410 = .ok (.aload 7, 2) := by decide +kernel
theorem dL_law_412 : decode cL_law 412 = .ok (.invokestatic 159, 3) := by decide +kernel
theorem dL_law_415 : decode cL_law 415 = .ok (.if_icmp .ne 24, 3) := by decide +kernel
theorem dL_law_418 : decode cL_law 418 = .ok (.aload_n 1, 1) := by decide +kernel
theorem dL_law_419 : decode cL_law 419 = .ok (.iload 9, 2) := by decide +kernel
theorem dL_law_421 : decode cL_law 421 = .ok (.iconst 5, 1) := by decide +kernel
theorem dL_law_422 : decode cL_law 422 = .ok (.ishr, 1) := by decide +kernel
theorem dL_law_423 : decode cL_law 423 = .ok (.aload_n 2, 1) := by decide +kernel
theorem dL_law_424 : decode cL_law 424 = .ok (.aload_n 3, 1) := by decide +kernel
theorem dL_law_425 : decode cL_law 425 = .ok (.aload 4, 2) := by decide +kernel
theorem dL_law_427 : decode cL_law 427 = .ok (.aload 5, 2) := by decide +kernel
theorem dL_law_429 : decode cL_law 429 = .ok (.aload 6, 2) := by decide +kernel
theorem dL_law_431 : decode cL_law 431 = .ok (.aload 7, 2) := by decide +kernel
theorem dL_law_433 : decode cL_law 433 = .ok (.invokestatic 162, 3) := by decide +kernel
theorem dL_law_436 : decode cL_law 436 = .ok (.ifCond .ne 5, 3) := by decide +kernel
theorem dL_law_439 : decode cL_law 439 = .ok (.iconst 0, 1) := by decide +kernel
theorem dL_law_440 : decode cL_law 440 = .ok (.ireturn, 1) := by decide +kernel
theorem dL_law_441 : decode cL_law 441 = .ok (.iinc 8 1, 3) := by decide +kernel
theorem dL_law_444 : decode cL_law 444 = .ok (.goto (-381), 3) := by decide +kernel
theorem dL_law_447 : decode cL_law 447 = .ok (.iconst 1, 1) := by decide +kernel
theorem dL_law_448 : decode cL_law 448 = .ok (.ireturn, 1) := by decide +kernel
end
section
/-! THE ENVIRONMENT: what every method may use of the machine's tables and statics, and that nobody changes -/
abbrev EV : Type := va_G × ClassId × ClassId × (Nat → Nat) × (Nat → Nat)
abbrev rq (k : Nat) : Room := { frames := k, cells := 0, slots := 0, locals := 32 * k }
abbrev tyE (E : EV) : List (ClassId × FieldType) := [(E.2.1, .int), (E.2.2.1, .char)]
def st_tab (n : String) (L : List Int32) (A : Nat → Prop) (U : State) (H : Heap) : Prop := ∃ t : Nat, va_Z RX7 n "[I" (.ref t) A U H ∧ va_T .int t 4 (fun j => .int (L.getD j 0)) A U H
def en_n (U : State) : Prop :=
  va_Nw (.methodLinkNest RX0 9 yX7_isWithin "TimingLights") U ∧ va_Nw (.methodLinkNest RX0 32 yX7_isPoints "TimingLights") U ∧ va_Nw (.methodLinkNest RX0 50 yX7_isColour "TimingLights") U ∧ va_Nw (.methodLinkNest RX5 19 yX7_bounded "TimingLights") U ∧ va_Nw (.methodLinkNest RX0 107 yX7_bounded "TimingLights") U ∧ True ∧ True ∧
  va_Nw (.fieldLinkNest RX3 15 "TimingLights" "FIRST_SETTING" "[I" "TimingLights") U ∧ va_Nw (.fieldLinkNest RX0 13 "TimingLights" "LEAST_SETTING" "[I" "TimingLights") U ∧ va_Nw (.fieldLinkNest RX0 17 "TimingLights" "MOST_SETTING" "[I" "TimingLights") U
def en (E : EV) (A : Nat → Prop) (U : State) (H : Heap) : Prop :=
  va_K E.1 vwCl (tyE E) U ∧ en_n U ∧ True ∧ st_tab "FIRST_SETTING" [1, 1, 8, 10] A U H ∧ st_tab "LEAST_SETTING" [1, 0, 1, 0] A U H ∧ st_tab "MOST_SETTING" [5, 9, 40, 50] A U H ∧
  True
theorem st_tab.go {n : String} {L : List Int32} {A B : Nat → Prop} {s U : State} {H : Heap} {locs : List Loc} (h : st_tab n L A s s.heap) (hS : va_S A s.heap H locs) (hB : ∀ q, B q → A q) (hv : s.vm.Alike U.vm) : st_tab n L B U H := by
  obtain ⟨t, h1, h2⟩ := h
  exact ⟨t, ((h1.kept hS.2.1).moved hv).narrow hB, ((h2.kept hS.2.1).moved hv).narrow hB⟩
theorem en_n.warm {s U : State} (hW : s.WarmedH U.vm) (h : en_n s) : en_n U := by
  obtain ⟨h1, h2, h3, h4, h5, h6, h7, h8, h9, h10⟩ := h
  exact ⟨h1.warmM hW, h2.warmM hW, h3.warmM hW, h4.warmM hW, h5.warmM hW, trivial, trivial, h8.warmF hW, h9.warmF hW, h10.warmF hW⟩
theorem en_n.same {u U : State} (hv : u.vm = U.vm) (h : en_n u) : en_n U := by
  obtain ⟨h1, h2, h3, h4, h5, h6, h7, h8, h9, h10⟩ := h
  exact ⟨h1.same rfl hv, h2.same rfl hv, h3.same rfl hv, h4.same rfl hv, h5.same rfl hv, trivial, trivial, h8.same rfl hv, h9.same rfl hv, h10.same rfl hv⟩
theorem en.go {E : EV} {A B : Nat → Prop} {s U : State} {H : Heap} {locs : List Loc} (h : en E A s s.heap) (hS : va_S A s.heap H locs) (hB : ∀ q, B q → A q) (hW : s.WarmedH U.vm) : en E B U H := by
  obtain ⟨h1, h2, h3, h4, h5, h6, h7⟩ := h
  have hv := hW.alike
  exact ⟨h1.moved hv, h2.warm hW, trivial, h4.go hS hB hv, h5.go hS hB hv, h6.go hS hB hv, trivial⟩
theorem en.same {E : EV} {A : Nat → Prop} {u U : State} {H : Heap} (hv : U.vm = u.vm) (h : en E A u H) : en E A U H := by
  obtain ⟨h1, h2, h3, ⟨t4, h4, g4⟩, ⟨t5, h5, g5⟩, ⟨t6, h6, g6⟩, h7⟩ := h
  have ha : u.vm.Alike U.vm := by rw [hv]; exact Vm.Alike.refl u.vm
  exact ⟨h1.moved ha, h2.same hv.symm, trivial, ⟨t4, h4.moved ha, g4.moved ha⟩, ⟨t5, h5.moved ha, g5.moved ha⟩, ⟨t6, h6.moved ha, g6.moved ha⟩, trivial⟩
/-! CALLS: a world in which some cells are another's -/
def rp : va_W → List Nat → va_W → va_W
  | w, i :: is, x :: xs => rp (w.set i x) is xs
  | w, _, _ => w
theorem rp_get : ∀ (is : List Nat) (w1 w : va_W) (k : Nat) (q : Nat × va_E), is.length = w1.length → (rp w is w1)[k]? = some q → (∃ j : Nat, is[j]? = some k ∧ w1[j]? = some q) ∨ (k ∉ is ∧ w[k]? = some q)
  | [], _, w, k, q, _, h => Or.inr ⟨List.not_mem_nil, by simpa [rp] using h⟩
  | i :: is, [], w, k, q, hl, h => by simp at hl
  | i :: is, x :: xs, w, k, q, hl, h => by
    have h' : (rp (w.set i x) is xs)[k]? = some q := h
    rcases rp_get is xs (w.set i x) k q (by simpa using hl) h' with ⟨j, h1, h2⟩ | ⟨h1, h2⟩
    · exact Or.inl ⟨j + 1, by simpa using h1, by simpa using h2⟩
    · by_cases e : k = i
      · subst e
        rw [List.getElem?_set] at h2
        simp at h2
        exact Or.inl ⟨0, by simp, by simp [h2.2]⟩
      · rw [List.getElem?_set_ne (fun z => e z.symm)] at h2
        exact Or.inr ⟨fun z => by rcases List.mem_cons.mp z with z | z; exact e z; exact h1 z, h2⟩
theorem rp_fst : ∀ (is : List Nat) (w1 w : va_W), is.map (fun i => (w.map Prod.fst)[i]?) = w1.map (fun x => some x.1) → (rp w is w1).map Prod.fst = w.map Prod.fst
  | [], _, w, _ => by simp [rp]
  | i :: is, [], w, h => by simp at h
  | i :: is, x :: xs, w, h => by
    simp only [List.map_cons, List.cons.injEq] at h
    have e : (w.set i x).map Prod.fst = w.map Prod.fst := by
      rw [List.map_set]
      obtain ⟨hi, he⟩ := List.getElem?_eq_some_iff.mp h.1
      rw [← he]
      exact List.set_getElem_self hi
    show (rp (w.set i x) is xs).map Prod.fst = _
    rw [rp_fst is xs (w.set i x) (by rw [e]; exact h.2), e]
theorem va_D.con {A : Nat → Prop} {w w' : va_W} (hD : va_D A w) (h : w'.map Prod.fst = w.map Prod.fst) : va_D A w' := by
  have key : ∀ (k : Nat) (q : Nat × va_E), w'[k]? = some q → ∃ q', w[k]? = some q' ∧ q'.1 = q.1 := by
    intro k q hk
    have h1 : (w'.map Prod.fst)[k]? = some q.1 := by rw [List.getElem?_map, hk]; rfl
    rw [h, List.getElem?_map] at h1
    cases hq : w[k]? with
    | none => rw [hq] at h1; cases h1
    | some q' => rw [hq] at h1; exact ⟨q', rfl, Option.some.inj h1⟩
  refine ⟨fun i j p q hi hj e => ?_, fun k q hk => ?_⟩
  · obtain ⟨p', a1, a2⟩ := key i p hi
    obtain ⟨q', b1, b2⟩ := key j q hj
    exact hD.1 i j p' q' a1 b1 (by rw [a2, b2, e])
  · obtain ⟨q', a1, a2⟩ := key k q hk
    rw [← a2]
    exact hD.2 k q' a1
/-- addresses apart, whatever stands there -/
def va_Da (A : Nat → Prop) (ad : List Nat) : Prop := ∃ w : va_W, va_D A w ∧ w.map Prod.fst = ad
theorem va_Da.to {A : Nat → Prop} {ad : List Nat} {w : va_W} (h : va_Da A ad) (e : w.map Prod.fst = ad) : va_D A w := by
  obtain ⟨w0, h1, h2⟩ := h
  exact h1.con (e.trans h2.symm)
theorem fm_of {α β : Type} {f : α → Option β} : ∀ (is : List α) (wc : List β), is.map f = wc.map some → is.filterMap f = wc
  | [], [], _ => rfl
  | [], _ :: _, h => by simp at h
  | _ :: _, [], h => by simp at h
  | i :: is, x :: xs, h => by
    simp only [List.map_cons, List.cons.injEq] at h
    rw [List.filterMap_cons_some h.1, fm_of is xs h.2]
theorem rj {D : va_G} {cl : List vw_C} {A : Nat → Prop} {w wc w1 : va_W} {H H1 : Heap} (hP : va_P D cl w H) (hD : va_D A w) (is : List Nat) (hC : is.map (fun i => w[i]?) = wc.map some) (ha : wc.map Prod.fst = w1.map Prod.fst)
    (hk : ∀ q : Nat, q < H.size → ¬ va_A wc H.size q → H1[q]? = H[q]?) (hP1 : va_P D cl w1 H1) : va_P D cl (rp w is w1) H1 ∧ va_D A (rp w is w1) := by
  have hl : is.length = w1.length := by
    have e1 := congrArg List.length hC
    have e2 := congrArg List.length ha
    simp at e1 e2
    omega
  refine ⟨fun k q hkq => ?_, hD.con (rp_fst is w1 w ?_)⟩
  · rcases rp_get is w1 w k q hl hkq with ⟨j, h1, h2⟩ | ⟨h1, h2⟩
    · exact hP1 j q h2
    · have hlt := (hP k q h2).lt
      refine (hP k q h2).kept (hk q.1 hlt fun z => ?_)
      rcases z with ⟨j, e, z⟩ | z
      · have h3 : (is.map (fun i => w[i]?))[j]? = some (some (q.1, e)) := by rw [hC, List.getElem?_map, z]; rfl
        rw [List.getElem?_map] at h3
        cases hi : is[j]? with
        | none => rw [hi] at h3; cases h3
        | some i =>
          rw [hi] at h3
          have h4 : w[i]? = some (q.1, e) := Option.some.inj h3
          have := hD.1 k i q (q.1, e) h2 h4 rfl
          subst this
          exact h1 (List.mem_of_getElem? hi)
      · omega
  · have e1 : (is.map (fun i => w[i]?)).map (Option.map Prod.fst) = (wc.map some).map (Option.map Prod.fst) := by rw [hC]
    have e2 : w1.map (fun x => some x.1) = (w1.map Prod.fst).map some := by simp
    rw [e2, ← ha]
    simpa [List.map_map, Function.comp_def] using e1
/-! CONTRACTS: a method that makes nothing, over a world whose addresses stay: the answer and the world behind it -/
abbrev rc_Pc (E : EV) (av : List Value) (w : va_W) (sz : Nat) : Array Value → State → Prop := va_Pc av (fun U => U.heap.size = sz ∧ va_P E.1 vwCl w U.heap ∧ en E (va_A w sz) U U.heap ∧ va_D (fun _ => True) w)
def rcI (l : Launch) (E : EV) (y : MethodName) (cc : ByteArray) (mL : Nat) (rt : FieldType) (k : Nat) (av : List Value) (w : va_W) (v : Int32) (w1 : va_W) : Prop :=
  ∀ sz : Nat, Met l y (Cond.code y cc mL (some rt) :: bw) (rq k) (rc_Pc E av w sz) (va_Qi (fun (r : Int32) (_ : Unit) => r = v) (fun _ t => va_P E.1 vwCl w1 t.heap) (va_A w sz)) 0 0 (va_A w sz)
def rcV (l : Launch) (E : EV) (y : MethodName) (cc : ByteArray) (mL : Nat) (k : Nat) (av : List Value) (w : va_W) (w1 : va_W) : Prop :=
  ∀ sz : Nat, Met l y (Cond.code y cc mL none :: bw) (rq k) (rc_Pc E av w sz) (va_Qv (fun (_ : Unit) => True) (fun _ t => va_P E.1 vwCl w1 t.heap) (va_A w sz)) 0 0 (va_A w sz)
theorem rcI_of {l : Launch} {E : EV} {y : MethodName} {cc : ByteArray} {mL : Nat} {rt : FieldType} {k : Nat} {av : List Value} {w : va_W} {v : Int32} {w1 : va_W} (hy : plainName y.cls = true) (hlen : (lg_sl av).length ≤ mL)
    (body : ∀ (p : Program) (e : Env) (s : State) (m : MethodId) (below : List Frame) (meth : Method) (c : Code) (Q : State → Prop) (A : Nat → Prop) (ls : Array Slot),
      CallFix p m c cc mL s av.toArray bw y.cls → va_P E.1 vwCl w s.heap → va_D A w → en E A s s.heap → (∀ q, s.heap.size ≤ q → A q) → lv_has ls mL (lv_args 0 av) →
      (∀ (H : Heap) (locs : List Loc) (v' : Int32) (w' : va_W) (pc : Nat) (ls' : Array Slot), v' = v → w' = w1 → narrow rt (.int v') = .int v' → va_P E.1 vwCl w' H → va_S A s.heap H locs → decode cc pc = .ok (.ireturn, 1) → W p l e (rq k) s m av.toArray below meth c H locs 0 0 Q (F0 m pc ls' [.int v'])) →
      W p l e (rq k) s m av.toArray below meth c s.heap [] 0 0 Q (F0 m 0 ls [])) : rcI l E y cc mL rt k av w v w1 := by
  intro sz
  refine Met.ofW (cc := cc) (maxL := mL) (ret := some rt) hy rfl ?_
  intro p e s m args below meth c s₁ B hml hv
  obtain ⟨rfl, hsz, hP, hE, hD0⟩ := hv
  subst hsz
  have hts := atoms_spec (ws := Cond.code y cc mL (some rt) :: bw) B.pre
  rw [lg_entry_eq]
  have hl := lv_entry av (n := mL) hlen
  generalize (lg_sl av ++ List.replicate (mL - (lg_sl av).length) Slot.unset).toArray = ls at hl ⊢
  refine body p e s m below meth c _ (va_A w s.heap.size) ls ⟨B.exec, B.bytes, hml, findClass_of_methodNamed B.named, fun x hx => hts x (List.mem_cons_of_mem _ hx)⟩ hP hD0.self hE (fun q h => Or.inr h) hl ?_
  intro H locs v' w' pc ls' hv hw hn hP1 hS hdg
  subst hv
  subst hw
  exact W.zret B.exec B.bytes B.returns hn (fun t ht hW => ⟨⟨v', (), rfl, rfl, by show va_P E.1 vwCl w' t.heap; rw [ht]; exact hP1⟩, hS.F ht⟩) hS.2.2 hdg B.notSynchronized
def rcL (l : Launch) (E : EV) (y : MethodName) (cc : ByteArray) (mL : Nat) (k : Nat) (av : List Value) (w : va_W) (v : Int64) (w1 : va_W) : Prop :=
  ∀ sz : Nat, Met l y (Cond.code y cc mL (some .long) :: bw) (rq k) (rc_Pc E av w sz) (va_Ql (fun (r : Int64) (_ : Unit) => r = v) (fun _ t => va_P E.1 vwCl w1 t.heap) (va_A w sz)) 0 0 (va_A w sz)
theorem rcL_of {l : Launch} {E : EV} {y : MethodName} {cc : ByteArray} {mL : Nat} {k : Nat} {av : List Value} {w : va_W} {v : Int64} {w1 : va_W} (hy : plainName y.cls = true) (hlen : (lg_sl av).length ≤ mL)
    (body : ∀ (p : Program) (e : Env) (s : State) (m : MethodId) (below : List Frame) (meth : Method) (c : Code) (Q : State → Prop) (A : Nat → Prop) (ls : Array Slot),
      CallFix p m c cc mL s av.toArray bw y.cls → va_P E.1 vwCl w s.heap → va_D A w → en E A s s.heap → (∀ q, s.heap.size ≤ q → A q) → lv_has ls mL (lv_args 0 av) →
      (∀ (H : Heap) (locs : List Loc) (v' : Int64) (w' : va_W) (pc : Nat) (ls' : Array Slot), v' = v → w' = w1 → va_P E.1 vwCl w' H → va_S A s.heap H locs → decode cc pc = .ok (.lreturn, 1) → W p l e (rq k) s m av.toArray below meth c H locs 0 0 Q (F0 m pc ls' [.long v'])) →
      W p l e (rq k) s m av.toArray below meth c s.heap [] 0 0 Q (F0 m 0 ls [])) : rcL l E y cc mL k av w v w1 := by
  intro sz
  refine Met.ofW (cc := cc) (maxL := mL) (ret := some .long) hy rfl ?_
  intro p e s m args below meth c s₁ B hml hv
  obtain ⟨rfl, hsz, hP, hE, hD0⟩ := hv
  subst hsz
  have hts := atoms_spec (ws := Cond.code y cc mL (some .long) :: bw) B.pre
  rw [lg_entry_eq]
  have hl := lv_entry av (n := mL) hlen
  generalize (lg_sl av ++ List.replicate (mL - (lg_sl av).length) Slot.unset).toArray = ls at hl ⊢
  refine body p e s m below meth c _ (va_A w s.heap.size) ls ⟨B.exec, B.bytes, hml, findClass_of_methodNamed B.named, fun x hx => hts x (List.mem_cons_of_mem _ hx)⟩ hP hD0.self hE (fun q h => Or.inr h) hl ?_
  intro H locs v' w' pc ls' hv hw hP1 hS hdg
  subst hv
  subst hw
  exact W.lret B.exec B.bytes B.returns (fun t ht hW => ⟨⟨v', (), rfl, rfl, by show va_P E.1 vwCl w' t.heap; rw [ht]; exact hP1⟩, hS.F ht⟩) hS.2.2 hdg B.notSynchronized
/-- a static method over the script alone -/
def rcX (l : Launch) (y : MethodName) (cc : ByteArray) (mL : Nat) (b LL : Nat) (xs : Nat → Int32) (k : Int32) (v : Int32) : Prop :=
  ∀ sz : Nat, Met l y (Cond.code y cc mL (some .int) :: bw) (rq 0) (va_Pc [.ref b, .int k] (fun U => U.heap.size = sz ∧ va_X b LL xs U U.heap ∧ b < sz)) (va_Qi (fun (r : Int32) (_ : Unit) => r = v) (fun _ _ => True) (va_A [] sz)) 0 0 (va_A [] sz)
theorem rcX_of {l : Launch} {y : MethodName} {cc : ByteArray} {mL : Nat} {b LL : Nat} {xs : Nat → Int32} {k v : Int32} (hy : plainName y.cls = true) (hlen : (lg_sl [.ref b, .int k]).length ≤ mL)
    (body : ∀ (p : Program) (e : Env) (s : State) (m : MethodId) (below : List Frame) (meth : Method) (c : Code) (Q : State → Prop) (A : Nat → Prop) (ls : Array Slot),
      CallFix p m c cc mL s #[.ref b, .int k] bw y.cls → va_X b LL xs s s.heap → b < s.heap.size → ¬ A b → lv_has ls mL (lv_args 0 [.ref b, .int k]) →
      (∀ (v' : Int32) (pc : Nat) (ls' : Array Slot), v' = v → decode cc pc = .ok (.ireturn, 1) → W p l e (rq 0) s m #[.ref b, .int k] below meth c s.heap [] 0 0 Q (F0 m pc ls' [.int v'])) →
      W p l e (rq 0) s m #[.ref b, .int k] below meth c s.heap [] 0 0 Q (F0 m 0 ls [])) : rcX l y cc mL b LL xs k v := by
  intro sz
  refine Met.ofW (cc := cc) (maxL := mL) (ret := some .int) hy rfl ?_
  intro p e s m args below meth c s₁ B hml hv
  obtain ⟨rfl, hsz, hX, hbl⟩ := hv
  subst hsz
  have hts := atoms_spec (ws := Cond.code y cc mL (some .int) :: bw) B.pre
  rw [lg_entry_eq]
  have hl := lv_entry [.ref b, .int k] (n := mL) hlen
  generalize (lg_sl [.ref b, .int k] ++ List.replicate (mL - (lg_sl [.ref b, .int k]).length) Slot.unset).toArray = ls at hl ⊢
  refine body p e s m below meth c _ (va_A [] s.heap.size) ls ⟨B.exec, B.bytes, hml, findClass_of_methodNamed B.named, fun x hx => hts x (List.mem_cons_of_mem _ hx)⟩ hX hbl (fun z => by rcases z with ⟨k9, e9, z9⟩ | z; simp at z9; omega) hl ?_
  intro v' pc ls' hv hdg
  subst hv
  have hS : va_S (va_A [] s.heap.size) s.heap s.heap [] := va_S.rf
  exact W.zret B.exec B.bytes B.returns rfl (fun t ht hW => ⟨⟨v', (), rfl, rfl, trivial⟩, hS.F ht⟩) hS.2.2 hdg B.notSynchronized
theorem rcV_of {l : Launch} {E : EV} {y : MethodName} {cc : ByteArray} {mL : Nat} {k : Nat} {av : List Value} {w : va_W} {w1 : va_W} (hy : plainName y.cls = true) (hlen : (lg_sl av).length ≤ mL)
    (body : ∀ (p : Program) (e : Env) (s : State) (m : MethodId) (below : List Frame) (meth : Method) (c : Code) (Q : State → Prop) (A : Nat → Prop) (ls : Array Slot),
      CallFix p m c cc mL s av.toArray bw y.cls → va_P E.1 vwCl w s.heap → va_D A w → en E A s s.heap → (∀ q, s.heap.size ≤ q → A q) → lv_has ls mL (lv_args 0 av) →
      (∀ (H : Heap) (locs : List Loc) (w' : va_W) (pc : Nat) (ls' : Array Slot), w' = w1 → va_P E.1 vwCl w' H → va_S A s.heap H locs → decode cc pc = .ok (.return_, 1) → W p l e (rq k) s m av.toArray below meth c H locs 0 0 Q (F0 m pc ls' [])) →
      W p l e (rq k) s m av.toArray below meth c s.heap [] 0 0 Q (F0 m 0 ls [])) : rcV l E y cc mL k av w w1 := by
  intro sz
  refine Met.ofW (cc := cc) (maxL := mL) (ret := none) hy rfl ?_
  intro p e s m args below meth c s₁ B hml hv
  obtain ⟨rfl, hsz, hP, hE, hD0⟩ := hv
  subst hsz
  have hts := atoms_spec (ws := Cond.code y cc mL none :: bw) B.pre
  rw [lg_entry_eq]
  have hl := lv_entry av (n := mL) hlen
  generalize (lg_sl av ++ List.replicate (mL - (lg_sl av).length) Slot.unset).toArray = ls at hl ⊢
  refine body p e s m below meth c _ (va_A w s.heap.size) ls ⟨B.exec, B.bytes, hml, findClass_of_methodNamed B.named, fun x hx => hts x (List.mem_cons_of_mem _ hx)⟩ hP hD0.self hE (fun q h => Or.inr h) hl ?_
  intro H locs w' pc ls' hw hP1 hS hdg
  subst hw
  exact W.vret B.exec B.bytes B.returns (fun t ht hW => ⟨⟨(), rfl, trivial, by show va_P E.1 vwCl w' t.heap; rw [ht]; exact hP1⟩, hS.F ht⟩) hS.2.2 hdg B.notSynchronized
/-- what a caller knows of a method: its code is among the tables' words, how many parameters it has -/
def cdB (y : MethodName) (cc : ByteArray) (mL : Nat) (ret : Option FieldType) (n : Nat) : Prop := Cond.code y cc mL ret ∈ bw ∧ Cond.initialized y.cls ∈ bw ∧ y.cls ≠ "java/lang/invoke/MethodHandle" ∧ y.cls ≠ "java/lang/invoke/VarHandle" ∧ (parseMethodDescriptor y.desc).map (fun d => d.parameters.length) = some n
def cdV (C : String) (y : MethodName) (cc : ByteArray) (mL : Nat) (ret : Option FieldType) (n : Nat) : Prop := cdB y cc mL ret n ∧ Cond.instanceMethod y ∈ bw ∧ Cond.selects C y y ∈ bw
def cdS (y : MethodName) (cc : ByteArray) (mL : Nat) (ret : Option FieldType) (n : Nat) : Prop := cdB y cc mL ret n ∧ Cond.static y ∈ bw
theorem nI_z {a : Nat} (ha : a < 2 ^ 31) : nI a = 0 ↔ a = 0 := by
  rw [← nI_0]; exact nI_eq ha (by omega)
theorem nI_g {a : Nat} (ha : a < 2 ^ 31) : 0 < nI a ↔ 0 < a := by
  rw [← nI_0]; exact nI_ltI (by omega) ha
theorem nI_l0 {a : Nat} (ha : a < 2 ^ 31) : nI a ≤ 0 ↔ a ≤ 0 := by
  rw [← nI_0]; exact nI_leI ha (by omega)
section RW
variable {p : Program} {l : Launch} {e : Env} {R : Room} {s : State} {m : MethodId} {args : Array Value} {below : List Frame} {meth : Method} {c : Code} {H : Heap} {locs : List Loc} {cells slots : Nat} {Q : State → Prop}
variable {cc : ByteArray} {pc nL : Nat} {ls : Array Slot} {rest st0 : List Value} {own : String} {E : EV} {A : Nat → Prop} {w wc w1 : va_W}
variable {y : MethodName} {cc2 : ByteArray} {mL2 j idx n : Nat} {rt : FieldType} {As : List Value} {v : Int32} {b : Nat} {C : String} {T : u_T} {N ci q0 : Nat} {fs : List Value}
theorem rc_cb {ret : Option FieldType} (S : CallFix p m c cc nL s args bw own) (hc : cdB y cc2 mL2 ret n) (hlk : Cond.methodLink own idx y ∈ bw) (hR : j + 1 ≤ R.frames ∧ 8 + (mL2 + 11) + 32 * j ≤ R.locals) : CallB R s args own idx y cc2 mL2 ret (Cond.code y cc2 mL2 ret :: bw) (rq j) 0 0 n :=
  callB_of n S.2.2.2.2 (bw_good hc.1) rfl rfl rfl (S.2.2.2.2 _ hc.2.1) (S.2.2.2.2 _ hlk) hc.2.2 hR
theorem rc_pre (hE : en E A s s.heap) (hS : va_S A s.heap H locs) (hP : va_P E.1 vwCl w H) (hD : va_D A w) (hA : ∀ q, s.heap.size ≤ q → A q) (is : List Nat) (hC : is.map (fun i => w[i]?) = wc.map some) (hnd : va_nd is = true) (av : List Value) :
    FrameBlind (rc_Pc E av wc H.size) ∧ (∀ U : State, U.heap = H → s.WarmedH U.vm → rc_Pc E av wc H.size av.toArray U) ∧ ∀ q, va_A wc H.size q → A q := by
  have hF := va_free (wc := wc) hD hS hA is hC
  refine ⟨fun a U g mk q => ?_, fun U hU hW => ?_, hF⟩
  · obtain ⟨q0, q1, qP, qE, qD⟩ := q
    exact ⟨q0, q1, qP, qE.same rfl, qD⟩
  · subst hU
    exact ⟨rfl, rfl, hP.sub is (fm_of is wc hC), hE.go hS hF hW, (hD.sub is hnd hC).weaken (fun _ _ _ _ => trivial)⟩
/-- a call of an instance method with an int answer -/
theorem rwV (S : CallFix p m c cc nL s args bw own) (hM : rcI l E y cc2 mL2 rt j (.ref b :: As) wc v w1) (hc : cdV C y cc2 mL2 (some rt) n) (hlk : Cond.methodLink own idx y ∈ bw) (hR : j + 1 ≤ R.frames ∧ 8 + (mL2 + 11) + 32 * j ≤ R.locals) (hf : cells ≤ R.cells ∧ slots ≤ R.slots)
    (hP : va_P E.1 vwCl w H) (hD : va_D A w) (hE : en E A s s.heap) (hA : ∀ q, s.heap.size ≤ q → A q) (hS : va_S A s.heap H locs) (is : List Nat) (hC : is.map (fun i => w[i]?) = wc.map some) (hnd : va_nd is = true) (ad : List Nat) (ha1 : wc.map Prod.fst = ad) (ha2 : w1.map Prod.fst = ad)
    (hci : vwCl[ci]? = some (C, T, N)) (hq0 : wc[q0]? = some (b, .inr (ci, fs))) (hn : As.length = n) (hst : st0 = As.reverse ++ .ref b :: rest) (hW : (rest.map fun v => v.category).sum ≤ 8) (hls : ls.size = nL) (hdg : decode cc pc = .ok (.invokevirtual idx, 3))
    (kk : ∀ (H1 : Heap) (locs1 : List Loc), va_P E.1 vwCl (rp w is w1) H1 → va_D A (rp w is w1) → va_S A s.heap H1 locs1 → W p l e R s m args below meth c H1 locs1 cells slots Q (F0 m (pc + 3) ls (.int v :: rest))) : W p l e R s m args below meth c H locs cells slots Q (F0 m pc ls st0) := by
  obtain ⟨hb0, hpre, hF⟩ := rc_pre hE hS hP hD hA is hC hnd (.ref b :: As)
  refine va_calli (va_runV (As := As) (rest := rest) S (hM H.size) ⟨rc_cb S hc.1 hlk hR, S.2.2.2.2 _ hc.2.1, S.2.2.2.2 _ hc.2.2⟩ ⟨hb0, va_recv hE.1 (hP.sub is (fm_of is wc hC)) hci hq0, hpre⟩ rfl hn hls hst (by show 2 * 0 + _ ≤ 8; omega) hdg ⟨hf.1, hf.2⟩) hS (fun q _ h => hF q h) hF (fun r u t H1 locs1 ht hvm hr hB hz1 hk1 hS1 => ?_)
  rw [ht] at hB
  rw [show r = v from hr]
  obtain ⟨hP2, hD2⟩ := rj hP hD is hC (ha1.trans ha2.symm) hk1 hB
  exact kk H1 locs1 hP2 hD2 hS1
theorem rwVv (S : CallFix p m c cc nL s args bw own) (hM : rcV l E y cc2 mL2 j (.ref b :: As) wc w1) (hc : cdV C y cc2 mL2 none n) (hlk : Cond.methodLink own idx y ∈ bw) (hR : j + 1 ≤ R.frames ∧ 8 + (mL2 + 11) + 32 * j ≤ R.locals) (hf : cells ≤ R.cells ∧ slots ≤ R.slots)
    (hP : va_P E.1 vwCl w H) (hD : va_D A w) (hE : en E A s s.heap) (hA : ∀ q, s.heap.size ≤ q → A q) (hS : va_S A s.heap H locs) (is : List Nat) (hC : is.map (fun i => w[i]?) = wc.map some) (hnd : va_nd is = true) (ad : List Nat) (ha1 : wc.map Prod.fst = ad) (ha2 : w1.map Prod.fst = ad)
    (hci : vwCl[ci]? = some (C, T, N)) (hq0 : wc[q0]? = some (b, .inr (ci, fs))) (hn : As.length = n) (hst : st0 = As.reverse ++ .ref b :: rest) (hW : (rest.map fun v => v.category).sum ≤ 8) (hls : ls.size = nL) (hdg : decode cc pc = .ok (.invokevirtual idx, 3))
    (kk : ∀ (H1 : Heap) (locs1 : List Loc), va_P E.1 vwCl (rp w is w1) H1 → va_D A (rp w is w1) → va_S A s.heap H1 locs1 → W p l e R s m args below meth c H1 locs1 cells slots Q (F0 m (pc + 3) ls rest)) : W p l e R s m args below meth c H locs cells slots Q (F0 m pc ls st0) := by
  obtain ⟨hb0, hpre, hF⟩ := rc_pre hE hS hP hD hA is hC hnd (.ref b :: As)
  refine va_callv (va_runV (As := As) (rest := rest) S (hM H.size) ⟨rc_cb S hc.1 hlk hR, S.2.2.2.2 _ hc.2.1, S.2.2.2.2 _ hc.2.2⟩ ⟨hb0, va_recv hE.1 (hP.sub is (fm_of is wc hC)) hci hq0, hpre⟩ rfl hn hls hst (by show 2 * 0 + _ ≤ 8; omega) hdg ⟨hf.1, hf.2⟩) hS (fun q _ h => hF q h) hF (fun u t H1 locs1 ht hvm hr hB hz1 hk1 hS1 => ?_)
  rw [ht] at hB
  obtain ⟨hP2, hD2⟩ := rj hP hD is hC (ha1.trans ha2.symm) hk1 hB
  exact kk H1 locs1 hP2 hD2 hS1
theorem rwS (S : CallFix p m c cc nL s args bw own) (hM : rcI l E y cc2 mL2 rt j As wc v w1) (hc : cdS y cc2 mL2 (some rt) n) (hlk : Cond.methodLink own idx y ∈ bw) (hR : j + 1 ≤ R.frames ∧ 8 + (mL2 + 11) + 32 * j ≤ R.locals) (hf : cells ≤ R.cells ∧ slots ≤ R.slots)
    (hP : va_P E.1 vwCl w H) (hD : va_D A w) (hE : en E A s s.heap) (hA : ∀ q, s.heap.size ≤ q → A q) (hS : va_S A s.heap H locs) (is : List Nat) (hC : is.map (fun i => w[i]?) = wc.map some) (hnd : va_nd is = true) (ad : List Nat) (ha1 : wc.map Prod.fst = ad) (ha2 : w1.map Prod.fst = ad)
    (hn : As.length = n) (hst : st0 = As.reverse ++ rest) (hW : (rest.map fun v => v.category).sum ≤ 8) (hls : ls.size = nL) (hdg : decode cc pc = .ok (.invokestatic idx, 3))
    (kk : ∀ (H1 : Heap) (locs1 : List Loc), va_P E.1 vwCl (rp w is w1) H1 → va_D A (rp w is w1) → va_S A s.heap H1 locs1 → W p l e R s m args below meth c H1 locs1 cells slots Q (F0 m (pc + 3) ls (.int v :: rest))) : W p l e R s m args below meth c H locs cells slots Q (F0 m pc ls st0) := by
  obtain ⟨hb0, hpre, hF⟩ := rc_pre hE hS hP hD hA is hC hnd As
  refine va_calli (va_runS (As := As) (rest := rest) S (hM H.size) ⟨rc_cb S hc.1 hlk hR, S.2.2.2.2 _ hc.2⟩ ⟨hb0, hpre⟩ rfl hn hls hst (by show 2 * 0 + _ ≤ 8; omega) hdg ⟨hf.1, hf.2⟩) hS (fun q _ h => hF q h) hF (fun r u t H1 locs1 ht hvm hr hB hz1 hk1 hS1 => ?_)
  rw [ht] at hB
  rw [show r = v from hr]
  obtain ⟨hP2, hD2⟩ := rj hP hD is hC (ha1.trans ha2.symm) hk1 hB
  exact kk H1 locs1 hP2 hD2 hS1
theorem rwSl {v : Int64} (S : CallFix p m c cc nL s args bw own) (hM : rcL l E y cc2 mL2 j As wc v w1) (hc : cdS y cc2 mL2 (some .long) n) (hlk : Cond.methodLink own idx y ∈ bw) (hR : j + 1 ≤ R.frames ∧ 8 + (mL2 + 11) + 32 * j ≤ R.locals) (hf : cells ≤ R.cells ∧ slots ≤ R.slots)
    (hP : va_P E.1 vwCl w H) (hD : va_D A w) (hE : en E A s s.heap) (hA : ∀ q, s.heap.size ≤ q → A q) (hS : va_S A s.heap H locs) (is : List Nat) (hC : is.map (fun i => w[i]?) = wc.map some) (hnd : va_nd is = true) (ad : List Nat) (ha1 : wc.map Prod.fst = ad) (ha2 : w1.map Prod.fst = ad)
    (hn : As.length = n) (hst : st0 = As.reverse ++ rest) (hW : (rest.map fun v => v.category).sum ≤ 8) (hls : ls.size = nL) (hdg : decode cc pc = .ok (.invokestatic idx, 3))
    (kk : ∀ (H1 : Heap) (locs1 : List Loc), va_P E.1 vwCl (rp w is w1) H1 → va_D A (rp w is w1) → va_S A s.heap H1 locs1 → W p l e R s m args below meth c H1 locs1 cells slots Q (F0 m (pc + 3) ls (.long v :: rest))) : W p l e R s m args below meth c H locs cells slots Q (F0 m pc ls st0) := by
  obtain ⟨hb0, hpre, hF⟩ := rc_pre hE hS hP hD hA is hC hnd As
  refine va_calll (va_runS (As := As) (rest := rest) S (hM H.size) ⟨rc_cb S hc.1 hlk hR, S.2.2.2.2 _ hc.2⟩ ⟨hb0, hpre⟩ rfl hn hls hst (by show 2 * 0 + _ ≤ 8; omega) hdg ⟨hf.1, hf.2⟩) hS (fun q _ h => hF q h) hF (fun r u t H1 locs1 ht hvm hr hB hz1 hk1 hS1 => ?_)
  rw [ht] at hB
  rw [show r = v from hr]
  obtain ⟨hP2, hD2⟩ := rj hP hD is hC (ha1.trans ha2.symm) hk1 hB
  exact kk H1 locs1 hP2 hD2 hS1
theorem rwSl1 {a1 : Value} {v : Int64} (S : CallFix p m c cc nL s args bw own) (hM : rcL l E y cc2 mL2 j [a1] wc v w1) (hc : cdS y cc2 mL2 (some .long) 1) (hlk : Cond.methodLink own idx y ∈ bw) (hR : j + 1 ≤ R.frames ∧ 8 + (mL2 + 11) + 32 * j ≤ R.locals) (hf : cells ≤ R.cells ∧ slots ≤ R.slots)
    (hP : va_P E.1 vwCl w H) (hD : va_D A w) (hE : en E A s s.heap) (hA : ∀ q, s.heap.size ≤ q → A q) (hS : va_S A s.heap H locs) (is : List Nat) (hC : is.map (fun i => w[i]?) = wc.map some) (hnd : va_nd is = true) (ad : List Nat) (ha1 : wc.map Prod.fst = ad) (ha2 : w1.map Prod.fst = ad)
    (hW : (rest.map fun v => v.category).sum ≤ 8) (hls : ls.size = nL) (hdg : decode cc pc = .ok (.invokestatic idx, 3))
    (kk : ∀ (H1 : Heap) (locs1 : List Loc), va_P E.1 vwCl (rp w is w1) H1 → va_D A (rp w is w1) → va_S A s.heap H1 locs1 → W p l e R s m args below meth c H1 locs1 cells slots Q (F0 m (pc + 3) ls (.long v :: rest))) : W p l e R s m args below meth c H locs cells slots Q (F0 m pc ls (a1 :: rest)) :=
  rwSl (As := [a1]) S hM hc hlk hR hf hP hD hE hA hS is hC hnd ad ha1 ha2 rfl rfl hW hls hdg kk
/-- a call over the script alone: nothing of the world changes -/
theorem rwX {b LL : Nat} {xs : Nat → Int32} {k : Int32} (S : CallFix p m c cc nL s args bw own) (hM : rcX l y cc2 mL2 b LL xs k v) (hc : cdS y cc2 mL2 (some .int) 2) (hlk : Cond.methodLink own idx y ∈ bw) (hR : 1 ≤ R.frames ∧ 8 + (mL2 + 11) ≤ R.locals) (hf : cells ≤ R.cells ∧ slots ≤ R.slots)
    (hX : va_X b LL xs s s.heap) (hbl : b < s.heap.size) (hbA : ¬ A b) (hP : va_P E.1 vwCl w H) (hD : va_D A w) (hA : ∀ q, s.heap.size ≤ q → A q) (hS : va_S A s.heap H locs)
    (hW : (rest.map fun v => v.category).sum ≤ 8) (hls : ls.size = nL) (hdg : decode cc pc = .ok (.invokestatic idx, 3))
    (kk : ∀ (H1 : Heap) (locs1 : List Loc), va_P E.1 vwCl w H1 → va_D A w → va_S A s.heap H1 locs1 → W p l e R s m args below meth c H1 locs1 cells slots Q (F0 m (pc + 3) ls (.int v :: rest))) : W p l e R s m args below meth c H locs cells slots Q (F0 m pc ls (.int k :: .ref b :: rest)) := by
  have hF : ∀ q, va_A [] H.size q → A q := fun q z => by
    rcases z with ⟨k9, e9, z9⟩ | z
    · simp at z9
    · exact hA q (Nat.le_trans hS.1 z)
  refine va_calli (va_runS (As := [.ref b, .int k]) (rest := rest) S (hM H.size) ⟨rc_cb S hc.1 hlk ⟨hR.1, hR.2⟩, S.2.2.2.2 _ hc.2⟩ ⟨fun a U g mk q => q, fun U hU hW9 => ?_⟩ rfl rfl hls rfl (by show 2 * 0 + _ ≤ 8; omega) hdg ⟨hf.1, hf.2⟩) hS (fun q _ h => hF q h) hF (fun r u t H1 locs1 ht hvm hr hB hz1 hk1 hS1 => ?_)
  · subst hU
    exact ⟨rfl, rfl, (hX.kept (hS.2.1 b hbl hbA)).moved hW9.alike, Nat.lt_of_lt_of_le hbl hS.1⟩
  · rw [show r = v from hr]
    refine kk H1 locs1 (hP.kept (fun k9 q9 h9 => hk1 q9.1 ?_ (fun z => ?_))) hD hS1
    · exact (hP k9 q9 h9).lt
    · rcases z with ⟨k8, e8, z8⟩ | z
      · simp at z8
      · exact absurd (hP k9 q9 h9).lt (Nat.not_lt_of_le z)
theorem rwSv (S : CallFix p m c cc nL s args bw own) (hM : rcV l E y cc2 mL2 j As wc w1) (hc : cdS y cc2 mL2 none n) (hlk : Cond.methodLink own idx y ∈ bw) (hR : j + 1 ≤ R.frames ∧ 8 + (mL2 + 11) + 32 * j ≤ R.locals) (hf : cells ≤ R.cells ∧ slots ≤ R.slots)
    (hP : va_P E.1 vwCl w H) (hD : va_D A w) (hE : en E A s s.heap) (hA : ∀ q, s.heap.size ≤ q → A q) (hS : va_S A s.heap H locs) (is : List Nat) (hC : is.map (fun i => w[i]?) = wc.map some) (hnd : va_nd is = true) (ad : List Nat) (ha1 : wc.map Prod.fst = ad) (ha2 : w1.map Prod.fst = ad)
    (hn : As.length = n) (hst : st0 = As.reverse ++ rest) (hW : (rest.map fun v => v.category).sum ≤ 8) (hls : ls.size = nL) (hdg : decode cc pc = .ok (.invokestatic idx, 3))
    (kk : ∀ (H1 : Heap) (locs1 : List Loc), va_P E.1 vwCl (rp w is w1) H1 → va_D A (rp w is w1) → va_S A s.heap H1 locs1 → W p l e R s m args below meth c H1 locs1 cells slots Q (F0 m (pc + 3) ls rest)) : W p l e R s m args below meth c H locs cells slots Q (F0 m pc ls st0) := by
  obtain ⟨hb0, hpre, hF⟩ := rc_pre hE hS hP hD hA is hC hnd As
  refine va_callv (va_runS (As := As) (rest := rest) S (hM H.size) ⟨rc_cb S hc.1 hlk hR, S.2.2.2.2 _ hc.2⟩ ⟨hb0, hpre⟩ rfl hn hls hst (by show 2 * 0 + _ ≤ 8; omega) hdg ⟨hf.1, hf.2⟩) hS (fun q _ h => hF q h) hF (fun u t H1 locs1 ht hvm hr hB hz1 hk1 hS1 => ?_)
  rw [ht] at hB
  obtain ⟨hP2, hD2⟩ := rj hP hD is hC (ha1.trans ha2.symm) hk1 hB
  exact kk H1 locs1 hP2 hD2 hS1
/-- a static private method of the nest host -/
theorem rwN {host : String} (S : CallFix p m c cc nL s args bw own) (hM : rcI l E y cc2 mL2 rt j As wc v w1) (hc : cdS y cc2 mL2 (some rt) n) (hlk : va_Nw (.methodLinkNest own idx y host) s) (hR : j + 1 ≤ R.frames ∧ 8 + (mL2 + 11) + 32 * j ≤ R.locals) (hf : cells ≤ R.cells ∧ slots ≤ R.slots)
    (hP : va_P E.1 vwCl w H) (hD : va_D A w) (hE : en E A s s.heap) (hA : ∀ q, s.heap.size ≤ q → A q) (hS : va_S A s.heap H locs) (is : List Nat) (hC : is.map (fun i => w[i]?) = wc.map some) (hnd : va_nd is = true) (ad : List Nat) (ha1 : wc.map Prod.fst = ad) (ha2 : w1.map Prod.fst = ad)
    (hn : As.length = n) (hst : st0 = As.reverse ++ rest) (hW : (rest.map fun v => v.category).sum ≤ 8) (hls : ls.size = nL) (hdg : decode cc pc = .ok (.invokestatic idx, 3))
    (kk : ∀ (H1 : Heap) (locs1 : List Loc), va_P E.1 vwCl (rp w is w1) H1 → va_D A (rp w is w1) → va_S A s.heap H1 locs1 → W p l e R s m args below meth c H1 locs1 cells slots Q (F0 m (pc + 3) ls (.int v :: rest))) : W p l e R s m args below meth c H locs cells slots Q (F0 m pc ls st0) := by
  obtain ⟨hb0, hpre, hF⟩ := rc_pre hE hS hP hD hA is hC hnd As
  refine va_calli (va_runSN (As := As) (rest := rest) S (hM H.size) ⟨va_cnB n S.2.2.2.2 (bw_good hc.1.1) rfl rfl rfl hlk (S.2.2.2.2 _ hc.1.2.1) hc.1.2.2 hR, S.2.2.2.2 _ hc.2, trivial⟩ ⟨hb0, hpre⟩ rfl hn hls hst (by show 2 * 0 + _ ≤ 8; omega) hdg ⟨hf.1, hf.2⟩) hS (fun q _ h => hF q h) hF (fun r u t H1 locs1 ht hvm hr hB hz1 hk1 hS1 => ?_)
  rw [ht] at hB
  rw [show r = v from hr]
  obtain ⟨hP2, hD2⟩ := rj hP hD is hC (ha1.trans ha2.symm) hk1 hB
  exact kk H1 locs1 hP2 hD2 hS1
/-! the same, by the number of parameters -/
theorem rwV0 (S : CallFix p m c cc nL s args bw own) (hM : rcI l E y cc2 mL2 rt j [.ref b] wc v w1) (hc : cdV C y cc2 mL2 (some rt) 0) (hlk : Cond.methodLink own idx y ∈ bw) (hR : j + 1 ≤ R.frames ∧ 8 + (mL2 + 11) + 32 * j ≤ R.locals) (hf : cells ≤ R.cells ∧ slots ≤ R.slots)
    (hP : va_P E.1 vwCl w H) (hD : va_D A w) (hE : en E A s s.heap) (hA : ∀ q, s.heap.size ≤ q → A q) (hS : va_S A s.heap H locs) (is : List Nat) (hC : is.map (fun i => w[i]?) = wc.map some) (hnd : va_nd is = true) (ad : List Nat) (ha1 : wc.map Prod.fst = ad) (ha2 : w1.map Prod.fst = ad)
    (hci : vwCl[ci]? = some (C, T, N)) (hq0 : wc[q0]? = some (b, .inr (ci, fs))) (hW : (rest.map fun v => v.category).sum ≤ 8) (hls : ls.size = nL) (hdg : decode cc pc = .ok (.invokevirtual idx, 3))
    (kk : ∀ (H1 : Heap) (locs1 : List Loc), va_P E.1 vwCl (rp w is w1) H1 → va_D A (rp w is w1) → va_S A s.heap H1 locs1 → W p l e R s m args below meth c H1 locs1 cells slots Q (F0 m (pc + 3) ls (.int v :: rest))) : W p l e R s m args below meth c H locs cells slots Q (F0 m pc ls (.ref b :: rest)) :=
  rwV (As := []) S hM hc hlk hR hf hP hD hE hA hS is hC hnd ad ha1 ha2 hci hq0 rfl rfl hW hls hdg kk
theorem rwV1 {a1 : Value} (S : CallFix p m c cc nL s args bw own) (hM : rcI l E y cc2 mL2 rt j [.ref b, a1] wc v w1) (hc : cdV C y cc2 mL2 (some rt) 1) (hlk : Cond.methodLink own idx y ∈ bw) (hR : j + 1 ≤ R.frames ∧ 8 + (mL2 + 11) + 32 * j ≤ R.locals) (hf : cells ≤ R.cells ∧ slots ≤ R.slots)
    (hP : va_P E.1 vwCl w H) (hD : va_D A w) (hE : en E A s s.heap) (hA : ∀ q, s.heap.size ≤ q → A q) (hS : va_S A s.heap H locs) (is : List Nat) (hC : is.map (fun i => w[i]?) = wc.map some) (hnd : va_nd is = true) (ad : List Nat) (ha1 : wc.map Prod.fst = ad) (ha2 : w1.map Prod.fst = ad)
    (hci : vwCl[ci]? = some (C, T, N)) (hq0 : wc[q0]? = some (b, .inr (ci, fs))) (hW : (rest.map fun v => v.category).sum ≤ 8) (hls : ls.size = nL) (hdg : decode cc pc = .ok (.invokevirtual idx, 3))
    (kk : ∀ (H1 : Heap) (locs1 : List Loc), va_P E.1 vwCl (rp w is w1) H1 → va_D A (rp w is w1) → va_S A s.heap H1 locs1 → W p l e R s m args below meth c H1 locs1 cells slots Q (F0 m (pc + 3) ls (.int v :: rest))) : W p l e R s m args below meth c H locs cells slots Q (F0 m pc ls (a1 :: .ref b :: rest)) :=
  rwV (As := [a1]) S hM hc hlk hR hf hP hD hE hA hS is hC hnd ad ha1 ha2 hci hq0 rfl rfl hW hls hdg kk
theorem rwV2 {a1 a2 : Value} (S : CallFix p m c cc nL s args bw own) (hM : rcI l E y cc2 mL2 rt j [.ref b, a1, a2] wc v w1) (hc : cdV C y cc2 mL2 (some rt) 2) (hlk : Cond.methodLink own idx y ∈ bw) (hR : j + 1 ≤ R.frames ∧ 8 + (mL2 + 11) + 32 * j ≤ R.locals) (hf : cells ≤ R.cells ∧ slots ≤ R.slots)
    (hP : va_P E.1 vwCl w H) (hD : va_D A w) (hE : en E A s s.heap) (hA : ∀ q, s.heap.size ≤ q → A q) (hS : va_S A s.heap H locs) (is : List Nat) (hC : is.map (fun i => w[i]?) = wc.map some) (hnd : va_nd is = true) (ad : List Nat) (ha1 : wc.map Prod.fst = ad) (ha2 : w1.map Prod.fst = ad)
    (hci : vwCl[ci]? = some (C, T, N)) (hq0 : wc[q0]? = some (b, .inr (ci, fs))) (hW : (rest.map fun v => v.category).sum ≤ 8) (hls : ls.size = nL) (hdg : decode cc pc = .ok (.invokevirtual idx, 3))
    (kk : ∀ (H1 : Heap) (locs1 : List Loc), va_P E.1 vwCl (rp w is w1) H1 → va_D A (rp w is w1) → va_S A s.heap H1 locs1 → W p l e R s m args below meth c H1 locs1 cells slots Q (F0 m (pc + 3) ls (.int v :: rest))) : W p l e R s m args below meth c H locs cells slots Q (F0 m pc ls (a2 :: a1 :: .ref b :: rest)) :=
  rwV (As := [a1, a2]) S hM hc hlk hR hf hP hD hE hA hS is hC hnd ad ha1 ha2 hci hq0 rfl rfl hW hls hdg kk
theorem rwV3 {a1 a2 a3 : Value} (S : CallFix p m c cc nL s args bw own) (hM : rcI l E y cc2 mL2 rt j [.ref b, a1, a2, a3] wc v w1) (hc : cdV C y cc2 mL2 (some rt) 3) (hlk : Cond.methodLink own idx y ∈ bw) (hR : j + 1 ≤ R.frames ∧ 8 + (mL2 + 11) + 32 * j ≤ R.locals) (hf : cells ≤ R.cells ∧ slots ≤ R.slots)
    (hP : va_P E.1 vwCl w H) (hD : va_D A w) (hE : en E A s s.heap) (hA : ∀ q, s.heap.size ≤ q → A q) (hS : va_S A s.heap H locs) (is : List Nat) (hC : is.map (fun i => w[i]?) = wc.map some) (hnd : va_nd is = true) (ad : List Nat) (ha1 : wc.map Prod.fst = ad) (ha2 : w1.map Prod.fst = ad)
    (hci : vwCl[ci]? = some (C, T, N)) (hq0 : wc[q0]? = some (b, .inr (ci, fs))) (hW : (rest.map fun v => v.category).sum ≤ 8) (hls : ls.size = nL) (hdg : decode cc pc = .ok (.invokevirtual idx, 3))
    (kk : ∀ (H1 : Heap) (locs1 : List Loc), va_P E.1 vwCl (rp w is w1) H1 → va_D A (rp w is w1) → va_S A s.heap H1 locs1 → W p l e R s m args below meth c H1 locs1 cells slots Q (F0 m (pc + 3) ls (.int v :: rest))) : W p l e R s m args below meth c H locs cells slots Q (F0 m pc ls (a3 :: a2 :: a1 :: .ref b :: rest)) :=
  rwV (As := [a1, a2, a3]) S hM hc hlk hR hf hP hD hE hA hS is hC hnd ad ha1 ha2 hci hq0 rfl rfl hW hls hdg kk
theorem rwV4 {a1 a2 a3 a4 : Value} (S : CallFix p m c cc nL s args bw own) (hM : rcI l E y cc2 mL2 rt j [.ref b, a1, a2, a3, a4] wc v w1) (hc : cdV C y cc2 mL2 (some rt) 4) (hlk : Cond.methodLink own idx y ∈ bw) (hR : j + 1 ≤ R.frames ∧ 8 + (mL2 + 11) + 32 * j ≤ R.locals) (hf : cells ≤ R.cells ∧ slots ≤ R.slots)
    (hP : va_P E.1 vwCl w H) (hD : va_D A w) (hE : en E A s s.heap) (hA : ∀ q, s.heap.size ≤ q → A q) (hS : va_S A s.heap H locs) (is : List Nat) (hC : is.map (fun i => w[i]?) = wc.map some) (hnd : va_nd is = true) (ad : List Nat) (ha1 : wc.map Prod.fst = ad) (ha2 : w1.map Prod.fst = ad)
    (hci : vwCl[ci]? = some (C, T, N)) (hq0 : wc[q0]? = some (b, .inr (ci, fs))) (hW : (rest.map fun v => v.category).sum ≤ 8) (hls : ls.size = nL) (hdg : decode cc pc = .ok (.invokevirtual idx, 3))
    (kk : ∀ (H1 : Heap) (locs1 : List Loc), va_P E.1 vwCl (rp w is w1) H1 → va_D A (rp w is w1) → va_S A s.heap H1 locs1 → W p l e R s m args below meth c H1 locs1 cells slots Q (F0 m (pc + 3) ls (.int v :: rest))) : W p l e R s m args below meth c H locs cells slots Q (F0 m pc ls (a4 :: a3 :: a2 :: a1 :: .ref b :: rest)) :=
  rwV (As := [a1, a2, a3, a4]) S hM hc hlk hR hf hP hD hE hA hS is hC hnd ad ha1 ha2 hci hq0 rfl rfl hW hls hdg kk
theorem rwV5 {a1 a2 a3 a4 a5 : Value} (S : CallFix p m c cc nL s args bw own) (hM : rcI l E y cc2 mL2 rt j [.ref b, a1, a2, a3, a4, a5] wc v w1) (hc : cdV C y cc2 mL2 (some rt) 5) (hlk : Cond.methodLink own idx y ∈ bw) (hR : j + 1 ≤ R.frames ∧ 8 + (mL2 + 11) + 32 * j ≤ R.locals) (hf : cells ≤ R.cells ∧ slots ≤ R.slots)
    (hP : va_P E.1 vwCl w H) (hD : va_D A w) (hE : en E A s s.heap) (hA : ∀ q, s.heap.size ≤ q → A q) (hS : va_S A s.heap H locs) (is : List Nat) (hC : is.map (fun i => w[i]?) = wc.map some) (hnd : va_nd is = true) (ad : List Nat) (ha1 : wc.map Prod.fst = ad) (ha2 : w1.map Prod.fst = ad)
    (hci : vwCl[ci]? = some (C, T, N)) (hq0 : wc[q0]? = some (b, .inr (ci, fs))) (hW : (rest.map fun v => v.category).sum ≤ 8) (hls : ls.size = nL) (hdg : decode cc pc = .ok (.invokevirtual idx, 3))
    (kk : ∀ (H1 : Heap) (locs1 : List Loc), va_P E.1 vwCl (rp w is w1) H1 → va_D A (rp w is w1) → va_S A s.heap H1 locs1 → W p l e R s m args below meth c H1 locs1 cells slots Q (F0 m (pc + 3) ls (.int v :: rest))) : W p l e R s m args below meth c H locs cells slots Q (F0 m pc ls (a5 :: a4 :: a3 :: a2 :: a1 :: .ref b :: rest)) :=
  rwV (As := [a1, a2, a3, a4, a5]) S hM hc hlk hR hf hP hD hE hA hS is hC hnd ad ha1 ha2 hci hq0 rfl rfl hW hls hdg kk
theorem rwV6 {a1 a2 a3 a4 a5 a6 : Value} (S : CallFix p m c cc nL s args bw own) (hM : rcI l E y cc2 mL2 rt j [.ref b, a1, a2, a3, a4, a5, a6] wc v w1) (hc : cdV C y cc2 mL2 (some rt) 6) (hlk : Cond.methodLink own idx y ∈ bw) (hR : j + 1 ≤ R.frames ∧ 8 + (mL2 + 11) + 32 * j ≤ R.locals) (hf : cells ≤ R.cells ∧ slots ≤ R.slots)
    (hP : va_P E.1 vwCl w H) (hD : va_D A w) (hE : en E A s s.heap) (hA : ∀ q, s.heap.size ≤ q → A q) (hS : va_S A s.heap H locs) (is : List Nat) (hC : is.map (fun i => w[i]?) = wc.map some) (hnd : va_nd is = true) (ad : List Nat) (ha1 : wc.map Prod.fst = ad) (ha2 : w1.map Prod.fst = ad)
    (hci : vwCl[ci]? = some (C, T, N)) (hq0 : wc[q0]? = some (b, .inr (ci, fs))) (hW : (rest.map fun v => v.category).sum ≤ 8) (hls : ls.size = nL) (hdg : decode cc pc = .ok (.invokevirtual idx, 3))
    (kk : ∀ (H1 : Heap) (locs1 : List Loc), va_P E.1 vwCl (rp w is w1) H1 → va_D A (rp w is w1) → va_S A s.heap H1 locs1 → W p l e R s m args below meth c H1 locs1 cells slots Q (F0 m (pc + 3) ls (.int v :: rest))) : W p l e R s m args below meth c H locs cells slots Q (F0 m pc ls (a6 :: a5 :: a4 :: a3 :: a2 :: a1 :: .ref b :: rest)) :=
  rwV (As := [a1, a2, a3, a4, a5, a6]) S hM hc hlk hR hf hP hD hE hA hS is hC hnd ad ha1 ha2 hci hq0 rfl rfl hW hls hdg kk
theorem rwVv0 (S : CallFix p m c cc nL s args bw own) (hM : rcV l E y cc2 mL2 j [.ref b] wc w1) (hc : cdV C y cc2 mL2 none 0) (hlk : Cond.methodLink own idx y ∈ bw) (hR : j + 1 ≤ R.frames ∧ 8 + (mL2 + 11) + 32 * j ≤ R.locals) (hf : cells ≤ R.cells ∧ slots ≤ R.slots)
    (hP : va_P E.1 vwCl w H) (hD : va_D A w) (hE : en E A s s.heap) (hA : ∀ q, s.heap.size ≤ q → A q) (hS : va_S A s.heap H locs) (is : List Nat) (hC : is.map (fun i => w[i]?) = wc.map some) (hnd : va_nd is = true) (ad : List Nat) (ha1 : wc.map Prod.fst = ad) (ha2 : w1.map Prod.fst = ad)
    (hci : vwCl[ci]? = some (C, T, N)) (hq0 : wc[q0]? = some (b, .inr (ci, fs))) (hW : (rest.map fun v => v.category).sum ≤ 8) (hls : ls.size = nL) (hdg : decode cc pc = .ok (.invokevirtual idx, 3))
    (kk : ∀ (H1 : Heap) (locs1 : List Loc), va_P E.1 vwCl (rp w is w1) H1 → va_D A (rp w is w1) → va_S A s.heap H1 locs1 → W p l e R s m args below meth c H1 locs1 cells slots Q (F0 m (pc + 3) ls rest)) : W p l e R s m args below meth c H locs cells slots Q (F0 m pc ls (.ref b :: rest)) :=
  rwVv (As := []) S hM hc hlk hR hf hP hD hE hA hS is hC hnd ad ha1 ha2 hci hq0 rfl rfl hW hls hdg kk
theorem rwVv1 {a1 : Value} (S : CallFix p m c cc nL s args bw own) (hM : rcV l E y cc2 mL2 j [.ref b, a1] wc w1) (hc : cdV C y cc2 mL2 none 1) (hlk : Cond.methodLink own idx y ∈ bw) (hR : j + 1 ≤ R.frames ∧ 8 + (mL2 + 11) + 32 * j ≤ R.locals) (hf : cells ≤ R.cells ∧ slots ≤ R.slots)
    (hP : va_P E.1 vwCl w H) (hD : va_D A w) (hE : en E A s s.heap) (hA : ∀ q, s.heap.size ≤ q → A q) (hS : va_S A s.heap H locs) (is : List Nat) (hC : is.map (fun i => w[i]?) = wc.map some) (hnd : va_nd is = true) (ad : List Nat) (ha1 : wc.map Prod.fst = ad) (ha2 : w1.map Prod.fst = ad)
    (hci : vwCl[ci]? = some (C, T, N)) (hq0 : wc[q0]? = some (b, .inr (ci, fs))) (hW : (rest.map fun v => v.category).sum ≤ 8) (hls : ls.size = nL) (hdg : decode cc pc = .ok (.invokevirtual idx, 3))
    (kk : ∀ (H1 : Heap) (locs1 : List Loc), va_P E.1 vwCl (rp w is w1) H1 → va_D A (rp w is w1) → va_S A s.heap H1 locs1 → W p l e R s m args below meth c H1 locs1 cells slots Q (F0 m (pc + 3) ls rest)) : W p l e R s m args below meth c H locs cells slots Q (F0 m pc ls (a1 :: .ref b :: rest)) :=
  rwVv (As := [a1]) S hM hc hlk hR hf hP hD hE hA hS is hC hnd ad ha1 ha2 hci hq0 rfl rfl hW hls hdg kk
theorem rwVv2 {a1 a2 : Value} (S : CallFix p m c cc nL s args bw own) (hM : rcV l E y cc2 mL2 j [.ref b, a1, a2] wc w1) (hc : cdV C y cc2 mL2 none 2) (hlk : Cond.methodLink own idx y ∈ bw) (hR : j + 1 ≤ R.frames ∧ 8 + (mL2 + 11) + 32 * j ≤ R.locals) (hf : cells ≤ R.cells ∧ slots ≤ R.slots)
    (hP : va_P E.1 vwCl w H) (hD : va_D A w) (hE : en E A s s.heap) (hA : ∀ q, s.heap.size ≤ q → A q) (hS : va_S A s.heap H locs) (is : List Nat) (hC : is.map (fun i => w[i]?) = wc.map some) (hnd : va_nd is = true) (ad : List Nat) (ha1 : wc.map Prod.fst = ad) (ha2 : w1.map Prod.fst = ad)
    (hci : vwCl[ci]? = some (C, T, N)) (hq0 : wc[q0]? = some (b, .inr (ci, fs))) (hW : (rest.map fun v => v.category).sum ≤ 8) (hls : ls.size = nL) (hdg : decode cc pc = .ok (.invokevirtual idx, 3))
    (kk : ∀ (H1 : Heap) (locs1 : List Loc), va_P E.1 vwCl (rp w is w1) H1 → va_D A (rp w is w1) → va_S A s.heap H1 locs1 → W p l e R s m args below meth c H1 locs1 cells slots Q (F0 m (pc + 3) ls rest)) : W p l e R s m args below meth c H locs cells slots Q (F0 m pc ls (a2 :: a1 :: .ref b :: rest)) :=
  rwVv (As := [a1, a2]) S hM hc hlk hR hf hP hD hE hA hS is hC hnd ad ha1 ha2 hci hq0 rfl rfl hW hls hdg kk
theorem rwVv3 {a1 a2 a3 : Value} (S : CallFix p m c cc nL s args bw own) (hM : rcV l E y cc2 mL2 j [.ref b, a1, a2, a3] wc w1) (hc : cdV C y cc2 mL2 none 3) (hlk : Cond.methodLink own idx y ∈ bw) (hR : j + 1 ≤ R.frames ∧ 8 + (mL2 + 11) + 32 * j ≤ R.locals) (hf : cells ≤ R.cells ∧ slots ≤ R.slots)
    (hP : va_P E.1 vwCl w H) (hD : va_D A w) (hE : en E A s s.heap) (hA : ∀ q, s.heap.size ≤ q → A q) (hS : va_S A s.heap H locs) (is : List Nat) (hC : is.map (fun i => w[i]?) = wc.map some) (hnd : va_nd is = true) (ad : List Nat) (ha1 : wc.map Prod.fst = ad) (ha2 : w1.map Prod.fst = ad)
    (hci : vwCl[ci]? = some (C, T, N)) (hq0 : wc[q0]? = some (b, .inr (ci, fs))) (hW : (rest.map fun v => v.category).sum ≤ 8) (hls : ls.size = nL) (hdg : decode cc pc = .ok (.invokevirtual idx, 3))
    (kk : ∀ (H1 : Heap) (locs1 : List Loc), va_P E.1 vwCl (rp w is w1) H1 → va_D A (rp w is w1) → va_S A s.heap H1 locs1 → W p l e R s m args below meth c H1 locs1 cells slots Q (F0 m (pc + 3) ls rest)) : W p l e R s m args below meth c H locs cells slots Q (F0 m pc ls (a3 :: a2 :: a1 :: .ref b :: rest)) :=
  rwVv (As := [a1, a2, a3]) S hM hc hlk hR hf hP hD hE hA hS is hC hnd ad ha1 ha2 hci hq0 rfl rfl hW hls hdg kk
theorem rwVv4 {a1 a2 a3 a4 : Value} (S : CallFix p m c cc nL s args bw own) (hM : rcV l E y cc2 mL2 j [.ref b, a1, a2, a3, a4] wc w1) (hc : cdV C y cc2 mL2 none 4) (hlk : Cond.methodLink own idx y ∈ bw) (hR : j + 1 ≤ R.frames ∧ 8 + (mL2 + 11) + 32 * j ≤ R.locals) (hf : cells ≤ R.cells ∧ slots ≤ R.slots)
    (hP : va_P E.1 vwCl w H) (hD : va_D A w) (hE : en E A s s.heap) (hA : ∀ q, s.heap.size ≤ q → A q) (hS : va_S A s.heap H locs) (is : List Nat) (hC : is.map (fun i => w[i]?) = wc.map some) (hnd : va_nd is = true) (ad : List Nat) (ha1 : wc.map Prod.fst = ad) (ha2 : w1.map Prod.fst = ad)
    (hci : vwCl[ci]? = some (C, T, N)) (hq0 : wc[q0]? = some (b, .inr (ci, fs))) (hW : (rest.map fun v => v.category).sum ≤ 8) (hls : ls.size = nL) (hdg : decode cc pc = .ok (.invokevirtual idx, 3))
    (kk : ∀ (H1 : Heap) (locs1 : List Loc), va_P E.1 vwCl (rp w is w1) H1 → va_D A (rp w is w1) → va_S A s.heap H1 locs1 → W p l e R s m args below meth c H1 locs1 cells slots Q (F0 m (pc + 3) ls rest)) : W p l e R s m args below meth c H locs cells slots Q (F0 m pc ls (a4 :: a3 :: a2 :: a1 :: .ref b :: rest)) :=
  rwVv (As := [a1, a2, a3, a4]) S hM hc hlk hR hf hP hD hE hA hS is hC hnd ad ha1 ha2 hci hq0 rfl rfl hW hls hdg kk
theorem rwS0 (S : CallFix p m c cc nL s args bw own) (hM : rcI l E y cc2 mL2 rt j [] wc v w1) (hc : cdS y cc2 mL2 (some rt) 0) (hlk : Cond.methodLink own idx y ∈ bw) (hR : j + 1 ≤ R.frames ∧ 8 + (mL2 + 11) + 32 * j ≤ R.locals) (hf : cells ≤ R.cells ∧ slots ≤ R.slots)
    (hP : va_P E.1 vwCl w H) (hD : va_D A w) (hE : en E A s s.heap) (hA : ∀ q, s.heap.size ≤ q → A q) (hS : va_S A s.heap H locs) (is : List Nat) (hC : is.map (fun i => w[i]?) = wc.map some) (hnd : va_nd is = true) (ad : List Nat) (ha1 : wc.map Prod.fst = ad) (ha2 : w1.map Prod.fst = ad)
    (hW : (rest.map fun v => v.category).sum ≤ 8) (hls : ls.size = nL) (hdg : decode cc pc = .ok (.invokestatic idx, 3))
    (kk : ∀ (H1 : Heap) (locs1 : List Loc), va_P E.1 vwCl (rp w is w1) H1 → va_D A (rp w is w1) → va_S A s.heap H1 locs1 → W p l e R s m args below meth c H1 locs1 cells slots Q (F0 m (pc + 3) ls (.int v :: rest))) : W p l e R s m args below meth c H locs cells slots Q (F0 m pc ls (rest)) :=
  rwS (As := []) S hM hc hlk hR hf hP hD hE hA hS is hC hnd ad ha1 ha2 rfl rfl hW hls hdg kk
theorem rwS1 {a1 : Value} (S : CallFix p m c cc nL s args bw own) (hM : rcI l E y cc2 mL2 rt j [a1] wc v w1) (hc : cdS y cc2 mL2 (some rt) 1) (hlk : Cond.methodLink own idx y ∈ bw) (hR : j + 1 ≤ R.frames ∧ 8 + (mL2 + 11) + 32 * j ≤ R.locals) (hf : cells ≤ R.cells ∧ slots ≤ R.slots)
    (hP : va_P E.1 vwCl w H) (hD : va_D A w) (hE : en E A s s.heap) (hA : ∀ q, s.heap.size ≤ q → A q) (hS : va_S A s.heap H locs) (is : List Nat) (hC : is.map (fun i => w[i]?) = wc.map some) (hnd : va_nd is = true) (ad : List Nat) (ha1 : wc.map Prod.fst = ad) (ha2 : w1.map Prod.fst = ad)
    (hW : (rest.map fun v => v.category).sum ≤ 8) (hls : ls.size = nL) (hdg : decode cc pc = .ok (.invokestatic idx, 3))
    (kk : ∀ (H1 : Heap) (locs1 : List Loc), va_P E.1 vwCl (rp w is w1) H1 → va_D A (rp w is w1) → va_S A s.heap H1 locs1 → W p l e R s m args below meth c H1 locs1 cells slots Q (F0 m (pc + 3) ls (.int v :: rest))) : W p l e R s m args below meth c H locs cells slots Q (F0 m pc ls (a1 :: rest)) :=
  rwS (As := [a1]) S hM hc hlk hR hf hP hD hE hA hS is hC hnd ad ha1 ha2 rfl rfl hW hls hdg kk
theorem rwS2 {a1 a2 : Value} (S : CallFix p m c cc nL s args bw own) (hM : rcI l E y cc2 mL2 rt j [a1, a2] wc v w1) (hc : cdS y cc2 mL2 (some rt) 2) (hlk : Cond.methodLink own idx y ∈ bw) (hR : j + 1 ≤ R.frames ∧ 8 + (mL2 + 11) + 32 * j ≤ R.locals) (hf : cells ≤ R.cells ∧ slots ≤ R.slots)
    (hP : va_P E.1 vwCl w H) (hD : va_D A w) (hE : en E A s s.heap) (hA : ∀ q, s.heap.size ≤ q → A q) (hS : va_S A s.heap H locs) (is : List Nat) (hC : is.map (fun i => w[i]?) = wc.map some) (hnd : va_nd is = true) (ad : List Nat) (ha1 : wc.map Prod.fst = ad) (ha2 : w1.map Prod.fst = ad)
    (hW : (rest.map fun v => v.category).sum ≤ 8) (hls : ls.size = nL) (hdg : decode cc pc = .ok (.invokestatic idx, 3))
    (kk : ∀ (H1 : Heap) (locs1 : List Loc), va_P E.1 vwCl (rp w is w1) H1 → va_D A (rp w is w1) → va_S A s.heap H1 locs1 → W p l e R s m args below meth c H1 locs1 cells slots Q (F0 m (pc + 3) ls (.int v :: rest))) : W p l e R s m args below meth c H locs cells slots Q (F0 m pc ls (a2 :: a1 :: rest)) :=
  rwS (As := [a1, a2]) S hM hc hlk hR hf hP hD hE hA hS is hC hnd ad ha1 ha2 rfl rfl hW hls hdg kk
theorem rwS3 {a1 a2 a3 : Value} (S : CallFix p m c cc nL s args bw own) (hM : rcI l E y cc2 mL2 rt j [a1, a2, a3] wc v w1) (hc : cdS y cc2 mL2 (some rt) 3) (hlk : Cond.methodLink own idx y ∈ bw) (hR : j + 1 ≤ R.frames ∧ 8 + (mL2 + 11) + 32 * j ≤ R.locals) (hf : cells ≤ R.cells ∧ slots ≤ R.slots)
    (hP : va_P E.1 vwCl w H) (hD : va_D A w) (hE : en E A s s.heap) (hA : ∀ q, s.heap.size ≤ q → A q) (hS : va_S A s.heap H locs) (is : List Nat) (hC : is.map (fun i => w[i]?) = wc.map some) (hnd : va_nd is = true) (ad : List Nat) (ha1 : wc.map Prod.fst = ad) (ha2 : w1.map Prod.fst = ad)
    (hW : (rest.map fun v => v.category).sum ≤ 8) (hls : ls.size = nL) (hdg : decode cc pc = .ok (.invokestatic idx, 3))
    (kk : ∀ (H1 : Heap) (locs1 : List Loc), va_P E.1 vwCl (rp w is w1) H1 → va_D A (rp w is w1) → va_S A s.heap H1 locs1 → W p l e R s m args below meth c H1 locs1 cells slots Q (F0 m (pc + 3) ls (.int v :: rest))) : W p l e R s m args below meth c H locs cells slots Q (F0 m pc ls (a3 :: a2 :: a1 :: rest)) :=
  rwS (As := [a1, a2, a3]) S hM hc hlk hR hf hP hD hE hA hS is hC hnd ad ha1 ha2 rfl rfl hW hls hdg kk
theorem rwS4 {a1 a2 a3 a4 : Value} (S : CallFix p m c cc nL s args bw own) (hM : rcI l E y cc2 mL2 rt j [a1, a2, a3, a4] wc v w1) (hc : cdS y cc2 mL2 (some rt) 4) (hlk : Cond.methodLink own idx y ∈ bw) (hR : j + 1 ≤ R.frames ∧ 8 + (mL2 + 11) + 32 * j ≤ R.locals) (hf : cells ≤ R.cells ∧ slots ≤ R.slots)
    (hP : va_P E.1 vwCl w H) (hD : va_D A w) (hE : en E A s s.heap) (hA : ∀ q, s.heap.size ≤ q → A q) (hS : va_S A s.heap H locs) (is : List Nat) (hC : is.map (fun i => w[i]?) = wc.map some) (hnd : va_nd is = true) (ad : List Nat) (ha1 : wc.map Prod.fst = ad) (ha2 : w1.map Prod.fst = ad)
    (hW : (rest.map fun v => v.category).sum ≤ 8) (hls : ls.size = nL) (hdg : decode cc pc = .ok (.invokestatic idx, 3))
    (kk : ∀ (H1 : Heap) (locs1 : List Loc), va_P E.1 vwCl (rp w is w1) H1 → va_D A (rp w is w1) → va_S A s.heap H1 locs1 → W p l e R s m args below meth c H1 locs1 cells slots Q (F0 m (pc + 3) ls (.int v :: rest))) : W p l e R s m args below meth c H locs cells slots Q (F0 m pc ls (a4 :: a3 :: a2 :: a1 :: rest)) :=
  rwS (As := [a1, a2, a3, a4]) S hM hc hlk hR hf hP hD hE hA hS is hC hnd ad ha1 ha2 rfl rfl hW hls hdg kk
theorem rwS5 {a1 a2 a3 a4 a5 : Value} (S : CallFix p m c cc nL s args bw own) (hM : rcI l E y cc2 mL2 rt j [a1, a2, a3, a4, a5] wc v w1) (hc : cdS y cc2 mL2 (some rt) 5) (hlk : Cond.methodLink own idx y ∈ bw) (hR : j + 1 ≤ R.frames ∧ 8 + (mL2 + 11) + 32 * j ≤ R.locals) (hf : cells ≤ R.cells ∧ slots ≤ R.slots)
    (hP : va_P E.1 vwCl w H) (hD : va_D A w) (hE : en E A s s.heap) (hA : ∀ q, s.heap.size ≤ q → A q) (hS : va_S A s.heap H locs) (is : List Nat) (hC : is.map (fun i => w[i]?) = wc.map some) (hnd : va_nd is = true) (ad : List Nat) (ha1 : wc.map Prod.fst = ad) (ha2 : w1.map Prod.fst = ad)
    (hW : (rest.map fun v => v.category).sum ≤ 8) (hls : ls.size = nL) (hdg : decode cc pc = .ok (.invokestatic idx, 3))
    (kk : ∀ (H1 : Heap) (locs1 : List Loc), va_P E.1 vwCl (rp w is w1) H1 → va_D A (rp w is w1) → va_S A s.heap H1 locs1 → W p l e R s m args below meth c H1 locs1 cells slots Q (F0 m (pc + 3) ls (.int v :: rest))) : W p l e R s m args below meth c H locs cells slots Q (F0 m pc ls (a5 :: a4 :: a3 :: a2 :: a1 :: rest)) :=
  rwS (As := [a1, a2, a3, a4, a5]) S hM hc hlk hR hf hP hD hE hA hS is hC hnd ad ha1 ha2 rfl rfl hW hls hdg kk
theorem rwS6 {a1 a2 a3 a4 a5 a6 : Value} (S : CallFix p m c cc nL s args bw own) (hM : rcI l E y cc2 mL2 rt j [a1, a2, a3, a4, a5, a6] wc v w1) (hc : cdS y cc2 mL2 (some rt) 6) (hlk : Cond.methodLink own idx y ∈ bw) (hR : j + 1 ≤ R.frames ∧ 8 + (mL2 + 11) + 32 * j ≤ R.locals) (hf : cells ≤ R.cells ∧ slots ≤ R.slots)
    (hP : va_P E.1 vwCl w H) (hD : va_D A w) (hE : en E A s s.heap) (hA : ∀ q, s.heap.size ≤ q → A q) (hS : va_S A s.heap H locs) (is : List Nat) (hC : is.map (fun i => w[i]?) = wc.map some) (hnd : va_nd is = true) (ad : List Nat) (ha1 : wc.map Prod.fst = ad) (ha2 : w1.map Prod.fst = ad)
    (hW : (rest.map fun v => v.category).sum ≤ 8) (hls : ls.size = nL) (hdg : decode cc pc = .ok (.invokestatic idx, 3))
    (kk : ∀ (H1 : Heap) (locs1 : List Loc), va_P E.1 vwCl (rp w is w1) H1 → va_D A (rp w is w1) → va_S A s.heap H1 locs1 → W p l e R s m args below meth c H1 locs1 cells slots Q (F0 m (pc + 3) ls (.int v :: rest))) : W p l e R s m args below meth c H locs cells slots Q (F0 m pc ls (a6 :: a5 :: a4 :: a3 :: a2 :: a1 :: rest)) :=
  rwS (As := [a1, a2, a3, a4, a5, a6]) S hM hc hlk hR hf hP hD hE hA hS is hC hnd ad ha1 ha2 rfl rfl hW hls hdg kk
theorem rwSv0 (S : CallFix p m c cc nL s args bw own) (hM : rcV l E y cc2 mL2 j [] wc w1) (hc : cdS y cc2 mL2 none 0) (hlk : Cond.methodLink own idx y ∈ bw) (hR : j + 1 ≤ R.frames ∧ 8 + (mL2 + 11) + 32 * j ≤ R.locals) (hf : cells ≤ R.cells ∧ slots ≤ R.slots)
    (hP : va_P E.1 vwCl w H) (hD : va_D A w) (hE : en E A s s.heap) (hA : ∀ q, s.heap.size ≤ q → A q) (hS : va_S A s.heap H locs) (is : List Nat) (hC : is.map (fun i => w[i]?) = wc.map some) (hnd : va_nd is = true) (ad : List Nat) (ha1 : wc.map Prod.fst = ad) (ha2 : w1.map Prod.fst = ad)
    (hW : (rest.map fun v => v.category).sum ≤ 8) (hls : ls.size = nL) (hdg : decode cc pc = .ok (.invokestatic idx, 3))
    (kk : ∀ (H1 : Heap) (locs1 : List Loc), va_P E.1 vwCl (rp w is w1) H1 → va_D A (rp w is w1) → va_S A s.heap H1 locs1 → W p l e R s m args below meth c H1 locs1 cells slots Q (F0 m (pc + 3) ls rest)) : W p l e R s m args below meth c H locs cells slots Q (F0 m pc ls (rest)) :=
  rwSv (As := []) S hM hc hlk hR hf hP hD hE hA hS is hC hnd ad ha1 ha2 rfl rfl hW hls hdg kk
theorem rwSv1 {a1 : Value} (S : CallFix p m c cc nL s args bw own) (hM : rcV l E y cc2 mL2 j [a1] wc w1) (hc : cdS y cc2 mL2 none 1) (hlk : Cond.methodLink own idx y ∈ bw) (hR : j + 1 ≤ R.frames ∧ 8 + (mL2 + 11) + 32 * j ≤ R.locals) (hf : cells ≤ R.cells ∧ slots ≤ R.slots)
    (hP : va_P E.1 vwCl w H) (hD : va_D A w) (hE : en E A s s.heap) (hA : ∀ q, s.heap.size ≤ q → A q) (hS : va_S A s.heap H locs) (is : List Nat) (hC : is.map (fun i => w[i]?) = wc.map some) (hnd : va_nd is = true) (ad : List Nat) (ha1 : wc.map Prod.fst = ad) (ha2 : w1.map Prod.fst = ad)
    (hW : (rest.map fun v => v.category).sum ≤ 8) (hls : ls.size = nL) (hdg : decode cc pc = .ok (.invokestatic idx, 3))
    (kk : ∀ (H1 : Heap) (locs1 : List Loc), va_P E.1 vwCl (rp w is w1) H1 → va_D A (rp w is w1) → va_S A s.heap H1 locs1 → W p l e R s m args below meth c H1 locs1 cells slots Q (F0 m (pc + 3) ls rest)) : W p l e R s m args below meth c H locs cells slots Q (F0 m pc ls (a1 :: rest)) :=
  rwSv (As := [a1]) S hM hc hlk hR hf hP hD hE hA hS is hC hnd ad ha1 ha2 rfl rfl hW hls hdg kk
theorem rwSv2 {a1 a2 : Value} (S : CallFix p m c cc nL s args bw own) (hM : rcV l E y cc2 mL2 j [a1, a2] wc w1) (hc : cdS y cc2 mL2 none 2) (hlk : Cond.methodLink own idx y ∈ bw) (hR : j + 1 ≤ R.frames ∧ 8 + (mL2 + 11) + 32 * j ≤ R.locals) (hf : cells ≤ R.cells ∧ slots ≤ R.slots)
    (hP : va_P E.1 vwCl w H) (hD : va_D A w) (hE : en E A s s.heap) (hA : ∀ q, s.heap.size ≤ q → A q) (hS : va_S A s.heap H locs) (is : List Nat) (hC : is.map (fun i => w[i]?) = wc.map some) (hnd : va_nd is = true) (ad : List Nat) (ha1 : wc.map Prod.fst = ad) (ha2 : w1.map Prod.fst = ad)
    (hW : (rest.map fun v => v.category).sum ≤ 8) (hls : ls.size = nL) (hdg : decode cc pc = .ok (.invokestatic idx, 3))
    (kk : ∀ (H1 : Heap) (locs1 : List Loc), va_P E.1 vwCl (rp w is w1) H1 → va_D A (rp w is w1) → va_S A s.heap H1 locs1 → W p l e R s m args below meth c H1 locs1 cells slots Q (F0 m (pc + 3) ls rest)) : W p l e R s m args below meth c H locs cells slots Q (F0 m pc ls (a2 :: a1 :: rest)) :=
  rwSv (As := [a1, a2]) S hM hc hlk hR hf hP hD hE hA hS is hC hnd ad ha1 ha2 rfl rfl hW hls hdg kk
theorem rwSv3 {a1 a2 a3 : Value} (S : CallFix p m c cc nL s args bw own) (hM : rcV l E y cc2 mL2 j [a1, a2, a3] wc w1) (hc : cdS y cc2 mL2 none 3) (hlk : Cond.methodLink own idx y ∈ bw) (hR : j + 1 ≤ R.frames ∧ 8 + (mL2 + 11) + 32 * j ≤ R.locals) (hf : cells ≤ R.cells ∧ slots ≤ R.slots)
    (hP : va_P E.1 vwCl w H) (hD : va_D A w) (hE : en E A s s.heap) (hA : ∀ q, s.heap.size ≤ q → A q) (hS : va_S A s.heap H locs) (is : List Nat) (hC : is.map (fun i => w[i]?) = wc.map some) (hnd : va_nd is = true) (ad : List Nat) (ha1 : wc.map Prod.fst = ad) (ha2 : w1.map Prod.fst = ad)
    (hW : (rest.map fun v => v.category).sum ≤ 8) (hls : ls.size = nL) (hdg : decode cc pc = .ok (.invokestatic idx, 3))
    (kk : ∀ (H1 : Heap) (locs1 : List Loc), va_P E.1 vwCl (rp w is w1) H1 → va_D A (rp w is w1) → va_S A s.heap H1 locs1 → W p l e R s m args below meth c H1 locs1 cells slots Q (F0 m (pc + 3) ls rest)) : W p l e R s m args below meth c H locs cells slots Q (F0 m pc ls (a3 :: a2 :: a1 :: rest)) :=
  rwSv (As := [a1, a2, a3]) S hM hc hlk hR hf hP hD hE hA hS is hC hnd ad ha1 ha2 rfl rfl hW hls hdg kk
theorem rwSv4 {a1 a2 a3 a4 : Value} (S : CallFix p m c cc nL s args bw own) (hM : rcV l E y cc2 mL2 j [a1, a2, a3, a4] wc w1) (hc : cdS y cc2 mL2 none 4) (hlk : Cond.methodLink own idx y ∈ bw) (hR : j + 1 ≤ R.frames ∧ 8 + (mL2 + 11) + 32 * j ≤ R.locals) (hf : cells ≤ R.cells ∧ slots ≤ R.slots)
    (hP : va_P E.1 vwCl w H) (hD : va_D A w) (hE : en E A s s.heap) (hA : ∀ q, s.heap.size ≤ q → A q) (hS : va_S A s.heap H locs) (is : List Nat) (hC : is.map (fun i => w[i]?) = wc.map some) (hnd : va_nd is = true) (ad : List Nat) (ha1 : wc.map Prod.fst = ad) (ha2 : w1.map Prod.fst = ad)
    (hW : (rest.map fun v => v.category).sum ≤ 8) (hls : ls.size = nL) (hdg : decode cc pc = .ok (.invokestatic idx, 3))
    (kk : ∀ (H1 : Heap) (locs1 : List Loc), va_P E.1 vwCl (rp w is w1) H1 → va_D A (rp w is w1) → va_S A s.heap H1 locs1 → W p l e R s m args below meth c H1 locs1 cells slots Q (F0 m (pc + 3) ls rest)) : W p l e R s m args below meth c H locs cells slots Q (F0 m pc ls (a4 :: a3 :: a2 :: a1 :: rest)) :=
  rwSv (As := [a1, a2, a3, a4]) S hM hc hlk hR hf hP hD hE hA hS is hC hnd ad ha1 ha2 rfl rfl hW hls hdg kk
theorem rwSv5 {a1 a2 a3 a4 a5 : Value} (S : CallFix p m c cc nL s args bw own) (hM : rcV l E y cc2 mL2 j [a1, a2, a3, a4, a5] wc w1) (hc : cdS y cc2 mL2 none 5) (hlk : Cond.methodLink own idx y ∈ bw) (hR : j + 1 ≤ R.frames ∧ 8 + (mL2 + 11) + 32 * j ≤ R.locals) (hf : cells ≤ R.cells ∧ slots ≤ R.slots)
    (hP : va_P E.1 vwCl w H) (hD : va_D A w) (hE : en E A s s.heap) (hA : ∀ q, s.heap.size ≤ q → A q) (hS : va_S A s.heap H locs) (is : List Nat) (hC : is.map (fun i => w[i]?) = wc.map some) (hnd : va_nd is = true) (ad : List Nat) (ha1 : wc.map Prod.fst = ad) (ha2 : w1.map Prod.fst = ad)
    (hW : (rest.map fun v => v.category).sum ≤ 8) (hls : ls.size = nL) (hdg : decode cc pc = .ok (.invokestatic idx, 3))
    (kk : ∀ (H1 : Heap) (locs1 : List Loc), va_P E.1 vwCl (rp w is w1) H1 → va_D A (rp w is w1) → va_S A s.heap H1 locs1 → W p l e R s m args below meth c H1 locs1 cells slots Q (F0 m (pc + 3) ls rest)) : W p l e R s m args below meth c H locs cells slots Q (F0 m pc ls (a5 :: a4 :: a3 :: a2 :: a1 :: rest)) :=
  rwSv (As := [a1, a2, a3, a4, a5]) S hM hc hlk hR hf hP hD hE hA hS is hC hnd ad ha1 ha2 rfl rfl hW hls hdg kk
theorem rwSv6 {a1 a2 a3 a4 a5 a6 : Value} (S : CallFix p m c cc nL s args bw own) (hM : rcV l E y cc2 mL2 j [a1, a2, a3, a4, a5, a6] wc w1) (hc : cdS y cc2 mL2 none 6) (hlk : Cond.methodLink own idx y ∈ bw) (hR : j + 1 ≤ R.frames ∧ 8 + (mL2 + 11) + 32 * j ≤ R.locals) (hf : cells ≤ R.cells ∧ slots ≤ R.slots)
    (hP : va_P E.1 vwCl w H) (hD : va_D A w) (hE : en E A s s.heap) (hA : ∀ q, s.heap.size ≤ q → A q) (hS : va_S A s.heap H locs) (is : List Nat) (hC : is.map (fun i => w[i]?) = wc.map some) (hnd : va_nd is = true) (ad : List Nat) (ha1 : wc.map Prod.fst = ad) (ha2 : w1.map Prod.fst = ad)
    (hW : (rest.map fun v => v.category).sum ≤ 8) (hls : ls.size = nL) (hdg : decode cc pc = .ok (.invokestatic idx, 3))
    (kk : ∀ (H1 : Heap) (locs1 : List Loc), va_P E.1 vwCl (rp w is w1) H1 → va_D A (rp w is w1) → va_S A s.heap H1 locs1 → W p l e R s m args below meth c H1 locs1 cells slots Q (F0 m (pc + 3) ls rest)) : W p l e R s m args below meth c H locs cells slots Q (F0 m pc ls (a6 :: a5 :: a4 :: a3 :: a2 :: a1 :: rest)) :=
  rwSv (As := [a1, a2, a3, a4, a5, a6]) S hM hc hlk hR hf hP hD hE hA hS is hC hnd ad ha1 ha2 rfl rfl hW hls hdg kk
theorem rwN0 {host : String} (S : CallFix p m c cc nL s args bw own) (hM : rcI l E y cc2 mL2 rt j [] wc v w1) (hc : cdS y cc2 mL2 (some rt) 0) (hlk : va_Nw (.methodLinkNest own idx y host) s) (hR : j + 1 ≤ R.frames ∧ 8 + (mL2 + 11) + 32 * j ≤ R.locals) (hf : cells ≤ R.cells ∧ slots ≤ R.slots)
    (hP : va_P E.1 vwCl w H) (hD : va_D A w) (hE : en E A s s.heap) (hA : ∀ q, s.heap.size ≤ q → A q) (hS : va_S A s.heap H locs) (is : List Nat) (hC : is.map (fun i => w[i]?) = wc.map some) (hnd : va_nd is = true) (ad : List Nat) (ha1 : wc.map Prod.fst = ad) (ha2 : w1.map Prod.fst = ad)
    (hW : (rest.map fun v => v.category).sum ≤ 8) (hls : ls.size = nL) (hdg : decode cc pc = .ok (.invokestatic idx, 3))
    (kk : ∀ (H1 : Heap) (locs1 : List Loc), va_P E.1 vwCl (rp w is w1) H1 → va_D A (rp w is w1) → va_S A s.heap H1 locs1 → W p l e R s m args below meth c H1 locs1 cells slots Q (F0 m (pc + 3) ls (.int v :: rest))) : W p l e R s m args below meth c H locs cells slots Q (F0 m pc ls (rest)) :=
  rwN (As := []) S hM hc hlk hR hf hP hD hE hA hS is hC hnd ad ha1 ha2 rfl rfl hW hls hdg kk
theorem rwN1 {a1 : Value} {host : String} (S : CallFix p m c cc nL s args bw own) (hM : rcI l E y cc2 mL2 rt j [a1] wc v w1) (hc : cdS y cc2 mL2 (some rt) 1) (hlk : va_Nw (.methodLinkNest own idx y host) s) (hR : j + 1 ≤ R.frames ∧ 8 + (mL2 + 11) + 32 * j ≤ R.locals) (hf : cells ≤ R.cells ∧ slots ≤ R.slots)
    (hP : va_P E.1 vwCl w H) (hD : va_D A w) (hE : en E A s s.heap) (hA : ∀ q, s.heap.size ≤ q → A q) (hS : va_S A s.heap H locs) (is : List Nat) (hC : is.map (fun i => w[i]?) = wc.map some) (hnd : va_nd is = true) (ad : List Nat) (ha1 : wc.map Prod.fst = ad) (ha2 : w1.map Prod.fst = ad)
    (hW : (rest.map fun v => v.category).sum ≤ 8) (hls : ls.size = nL) (hdg : decode cc pc = .ok (.invokestatic idx, 3))
    (kk : ∀ (H1 : Heap) (locs1 : List Loc), va_P E.1 vwCl (rp w is w1) H1 → va_D A (rp w is w1) → va_S A s.heap H1 locs1 → W p l e R s m args below meth c H1 locs1 cells slots Q (F0 m (pc + 3) ls (.int v :: rest))) : W p l e R s m args below meth c H locs cells slots Q (F0 m pc ls (a1 :: rest)) :=
  rwN (As := [a1]) S hM hc hlk hR hf hP hD hE hA hS is hC hnd ad ha1 ha2 rfl rfl hW hls hdg kk
theorem rwN2 {a1 a2 : Value} {host : String} (S : CallFix p m c cc nL s args bw own) (hM : rcI l E y cc2 mL2 rt j [a1, a2] wc v w1) (hc : cdS y cc2 mL2 (some rt) 2) (hlk : va_Nw (.methodLinkNest own idx y host) s) (hR : j + 1 ≤ R.frames ∧ 8 + (mL2 + 11) + 32 * j ≤ R.locals) (hf : cells ≤ R.cells ∧ slots ≤ R.slots)
    (hP : va_P E.1 vwCl w H) (hD : va_D A w) (hE : en E A s s.heap) (hA : ∀ q, s.heap.size ≤ q → A q) (hS : va_S A s.heap H locs) (is : List Nat) (hC : is.map (fun i => w[i]?) = wc.map some) (hnd : va_nd is = true) (ad : List Nat) (ha1 : wc.map Prod.fst = ad) (ha2 : w1.map Prod.fst = ad)
    (hW : (rest.map fun v => v.category).sum ≤ 8) (hls : ls.size = nL) (hdg : decode cc pc = .ok (.invokestatic idx, 3))
    (kk : ∀ (H1 : Heap) (locs1 : List Loc), va_P E.1 vwCl (rp w is w1) H1 → va_D A (rp w is w1) → va_S A s.heap H1 locs1 → W p l e R s m args below meth c H1 locs1 cells slots Q (F0 m (pc + 3) ls (.int v :: rest))) : W p l e R s m args below meth c H locs cells slots Q (F0 m pc ls (a2 :: a1 :: rest)) :=
  rwN (As := [a1, a2]) S hM hc hlk hR hf hP hD hE hA hS is hC hnd ad ha1 ha2 rfl rfl hW hls hdg kk
theorem rwN3 {a1 a2 a3 : Value} {host : String} (S : CallFix p m c cc nL s args bw own) (hM : rcI l E y cc2 mL2 rt j [a1, a2, a3] wc v w1) (hc : cdS y cc2 mL2 (some rt) 3) (hlk : va_Nw (.methodLinkNest own idx y host) s) (hR : j + 1 ≤ R.frames ∧ 8 + (mL2 + 11) + 32 * j ≤ R.locals) (hf : cells ≤ R.cells ∧ slots ≤ R.slots)
    (hP : va_P E.1 vwCl w H) (hD : va_D A w) (hE : en E A s s.heap) (hA : ∀ q, s.heap.size ≤ q → A q) (hS : va_S A s.heap H locs) (is : List Nat) (hC : is.map (fun i => w[i]?) = wc.map some) (hnd : va_nd is = true) (ad : List Nat) (ha1 : wc.map Prod.fst = ad) (ha2 : w1.map Prod.fst = ad)
    (hW : (rest.map fun v => v.category).sum ≤ 8) (hls : ls.size = nL) (hdg : decode cc pc = .ok (.invokestatic idx, 3))
    (kk : ∀ (H1 : Heap) (locs1 : List Loc), va_P E.1 vwCl (rp w is w1) H1 → va_D A (rp w is w1) → va_S A s.heap H1 locs1 → W p l e R s m args below meth c H1 locs1 cells slots Q (F0 m (pc + 3) ls (.int v :: rest))) : W p l e R s m args below meth c H locs cells slots Q (F0 m pc ls (a3 :: a2 :: a1 :: rest)) :=
  rwN (As := [a1, a2, a3]) S hM hc hlk hR hf hP hD hE hA hS is hC hnd ad ha1 ha2 rfl rfl hW hls hdg kk
theorem rwN5 {a1 a2 a3 a4 a5 : Value} {host : String} (S : CallFix p m c cc nL s args bw own) (hM : rcI l E y cc2 mL2 rt j [a1, a2, a3, a4, a5] wc v w1) (hc : cdS y cc2 mL2 (some rt) 5) (hlk : va_Nw (.methodLinkNest own idx y host) s) (hR : j + 1 ≤ R.frames ∧ 8 + (mL2 + 11) + 32 * j ≤ R.locals) (hf : cells ≤ R.cells ∧ slots ≤ R.slots)
    (hP : va_P E.1 vwCl w H) (hD : va_D A w) (hE : en E A s s.heap) (hA : ∀ q, s.heap.size ≤ q → A q) (hS : va_S A s.heap H locs) (is : List Nat) (hC : is.map (fun i => w[i]?) = wc.map some) (hnd : va_nd is = true) (ad : List Nat) (ha1 : wc.map Prod.fst = ad) (ha2 : w1.map Prod.fst = ad)
    (hW : (rest.map fun v => v.category).sum ≤ 8) (hls : ls.size = nL) (hdg : decode cc pc = .ok (.invokestatic idx, 3))
    (kk : ∀ (H1 : Heap) (locs1 : List Loc), va_P E.1 vwCl (rp w is w1) H1 → va_D A (rp w is w1) → va_S A s.heap H1 locs1 → W p l e R s m args below meth c H1 locs1 cells slots Q (F0 m (pc + 3) ls (.int v :: rest))) : W p l e R s m args below meth c H locs cells slots Q (F0 m pc ls (a5 :: a4 :: a3 :: a2 :: a1 :: rest)) :=
  rwN (As := [a1, a2, a3, a4, a5]) S hM hc hlk hR hf hP hD hE hA hS is hC hnd ad ha1 ha2 rfl rfl hW hls hdg kk
theorem rwS7 {a1 a2 a3 a4 a5 a6 a7 : Value} (S : CallFix p m c cc nL s args bw own) (hM : rcI l E y cc2 mL2 rt j [a1, a2, a3, a4, a5, a6, a7] wc v w1) (hc : cdS y cc2 mL2 (some rt) 7) (hlk : Cond.methodLink own idx y ∈ bw) (hR : j + 1 ≤ R.frames ∧ 8 + (mL2 + 11) + 32 * j ≤ R.locals) (hf : cells ≤ R.cells ∧ slots ≤ R.slots)
    (hP : va_P E.1 vwCl w H) (hD : va_D A w) (hE : en E A s s.heap) (hA : ∀ q, s.heap.size ≤ q → A q) (hS : va_S A s.heap H locs) (is : List Nat) (hC : is.map (fun i => w[i]?) = wc.map some) (hnd : va_nd is = true) (ad : List Nat) (ha1 : wc.map Prod.fst = ad) (ha2 : w1.map Prod.fst = ad)
    (hW : (rest.map fun v => v.category).sum ≤ 8) (hls : ls.size = nL) (hdg : decode cc pc = .ok (.invokestatic idx, 3))
    (kk : ∀ (H1 : Heap) (locs1 : List Loc), va_P E.1 vwCl (rp w is w1) H1 → va_D A (rp w is w1) → va_S A s.heap H1 locs1 → W p l e R s m args below meth c H1 locs1 cells slots Q (F0 m (pc + 3) ls (.int v :: rest))) : W p l e R s m args below meth c H locs cells slots Q (F0 m pc ls (a7 :: a6 :: a5 :: a4 :: a3 :: a2 :: a1 :: rest)) :=
  rwS (As := [a1, a2, a3, a4, a5, a6, a7]) S hM hc hlk hR hf hP hD hE hA hS is hC hnd ad ha1 ha2 rfl rfl hW hls hdg kk
theorem rwS8 {a1 a2 a3 a4 a5 a6 a7 a8 : Value} (S : CallFix p m c cc nL s args bw own) (hM : rcI l E y cc2 mL2 rt j [a1, a2, a3, a4, a5, a6, a7, a8] wc v w1) (hc : cdS y cc2 mL2 (some rt) 8) (hlk : Cond.methodLink own idx y ∈ bw) (hR : j + 1 ≤ R.frames ∧ 8 + (mL2 + 11) + 32 * j ≤ R.locals) (hf : cells ≤ R.cells ∧ slots ≤ R.slots)
    (hP : va_P E.1 vwCl w H) (hD : va_D A w) (hE : en E A s s.heap) (hA : ∀ q, s.heap.size ≤ q → A q) (hS : va_S A s.heap H locs) (is : List Nat) (hC : is.map (fun i => w[i]?) = wc.map some) (hnd : va_nd is = true) (ad : List Nat) (ha1 : wc.map Prod.fst = ad) (ha2 : w1.map Prod.fst = ad)
    (hW : (rest.map fun v => v.category).sum ≤ 8) (hls : ls.size = nL) (hdg : decode cc pc = .ok (.invokestatic idx, 3))
    (kk : ∀ (H1 : Heap) (locs1 : List Loc), va_P E.1 vwCl (rp w is w1) H1 → va_D A (rp w is w1) → va_S A s.heap H1 locs1 → W p l e R s m args below meth c H1 locs1 cells slots Q (F0 m (pc + 3) ls (.int v :: rest))) : W p l e R s m args below meth c H locs cells slots Q (F0 m pc ls (a8 :: a7 :: a6 :: a5 :: a4 :: a3 :: a2 :: a1 :: rest)) :=
  rwS (As := [a1, a2, a3, a4, a5, a6, a7, a8]) S hM hc hlk hR hf hP hD hE hA hS is hC hnd ad ha1 ha2 rfl rfl hW hls hdg kk
theorem rwS9 {a1 a2 a3 a4 a5 a6 a7 a8 a9 : Value} (S : CallFix p m c cc nL s args bw own) (hM : rcI l E y cc2 mL2 rt j [a1, a2, a3, a4, a5, a6, a7, a8, a9] wc v w1) (hc : cdS y cc2 mL2 (some rt) 9) (hlk : Cond.methodLink own idx y ∈ bw) (hR : j + 1 ≤ R.frames ∧ 8 + (mL2 + 11) + 32 * j ≤ R.locals) (hf : cells ≤ R.cells ∧ slots ≤ R.slots)
    (hP : va_P E.1 vwCl w H) (hD : va_D A w) (hE : en E A s s.heap) (hA : ∀ q, s.heap.size ≤ q → A q) (hS : va_S A s.heap H locs) (is : List Nat) (hC : is.map (fun i => w[i]?) = wc.map some) (hnd : va_nd is = true) (ad : List Nat) (ha1 : wc.map Prod.fst = ad) (ha2 : w1.map Prod.fst = ad)
    (hW : (rest.map fun v => v.category).sum ≤ 8) (hls : ls.size = nL) (hdg : decode cc pc = .ok (.invokestatic idx, 3))
    (kk : ∀ (H1 : Heap) (locs1 : List Loc), va_P E.1 vwCl (rp w is w1) H1 → va_D A (rp w is w1) → va_S A s.heap H1 locs1 → W p l e R s m args below meth c H1 locs1 cells slots Q (F0 m (pc + 3) ls (.int v :: rest))) : W p l e R s m args below meth c H locs cells slots Q (F0 m pc ls (a9 :: a8 :: a7 :: a6 :: a5 :: a4 :: a3 :: a2 :: a1 :: rest)) :=
  rwS (As := [a1, a2, a3, a4, a5, a6, a7, a8, a9]) S hM hc hlk hR hf hP hD hE hA hS is hC hnd ad ha1 ha2 rfl rfl hW hls hdg kk
theorem rwS10 {a1 a2 a3 a4 a5 a6 a7 a8 a9 a10 : Value} (S : CallFix p m c cc nL s args bw own) (hM : rcI l E y cc2 mL2 rt j [a1, a2, a3, a4, a5, a6, a7, a8, a9, a10] wc v w1) (hc : cdS y cc2 mL2 (some rt) 10) (hlk : Cond.methodLink own idx y ∈ bw) (hR : j + 1 ≤ R.frames ∧ 8 + (mL2 + 11) + 32 * j ≤ R.locals) (hf : cells ≤ R.cells ∧ slots ≤ R.slots)
    (hP : va_P E.1 vwCl w H) (hD : va_D A w) (hE : en E A s s.heap) (hA : ∀ q, s.heap.size ≤ q → A q) (hS : va_S A s.heap H locs) (is : List Nat) (hC : is.map (fun i => w[i]?) = wc.map some) (hnd : va_nd is = true) (ad : List Nat) (ha1 : wc.map Prod.fst = ad) (ha2 : w1.map Prod.fst = ad)
    (hW : (rest.map fun v => v.category).sum ≤ 8) (hls : ls.size = nL) (hdg : decode cc pc = .ok (.invokestatic idx, 3))
    (kk : ∀ (H1 : Heap) (locs1 : List Loc), va_P E.1 vwCl (rp w is w1) H1 → va_D A (rp w is w1) → va_S A s.heap H1 locs1 → W p l e R s m args below meth c H1 locs1 cells slots Q (F0 m (pc + 3) ls (.int v :: rest))) : W p l e R s m args below meth c H locs cells slots Q (F0 m pc ls (a10 :: a9 :: a8 :: a7 :: a6 :: a5 :: a4 :: a3 :: a2 :: a1 :: rest)) :=
  rwS (As := [a1, a2, a3, a4, a5, a6, a7, a8, a9, a10]) S hM hc hlk hR hf hP hD hE hA hS is hC hnd ad ha1 ha2 rfl rfl hW hls hdg kk
theorem rwSv7 {a1 a2 a3 a4 a5 a6 a7 : Value} (S : CallFix p m c cc nL s args bw own) (hM : rcV l E y cc2 mL2 j [a1, a2, a3, a4, a5, a6, a7] wc w1) (hc : cdS y cc2 mL2 none 7) (hlk : Cond.methodLink own idx y ∈ bw) (hR : j + 1 ≤ R.frames ∧ 8 + (mL2 + 11) + 32 * j ≤ R.locals) (hf : cells ≤ R.cells ∧ slots ≤ R.slots)
    (hP : va_P E.1 vwCl w H) (hD : va_D A w) (hE : en E A s s.heap) (hA : ∀ q, s.heap.size ≤ q → A q) (hS : va_S A s.heap H locs) (is : List Nat) (hC : is.map (fun i => w[i]?) = wc.map some) (hnd : va_nd is = true) (ad : List Nat) (ha1 : wc.map Prod.fst = ad) (ha2 : w1.map Prod.fst = ad)
    (hW : (rest.map fun v => v.category).sum ≤ 8) (hls : ls.size = nL) (hdg : decode cc pc = .ok (.invokestatic idx, 3))
    (kk : ∀ (H1 : Heap) (locs1 : List Loc), va_P E.1 vwCl (rp w is w1) H1 → va_D A (rp w is w1) → va_S A s.heap H1 locs1 → W p l e R s m args below meth c H1 locs1 cells slots Q (F0 m (pc + 3) ls rest)) : W p l e R s m args below meth c H locs cells slots Q (F0 m pc ls (a7 :: a6 :: a5 :: a4 :: a3 :: a2 :: a1 :: rest)) :=
  rwSv (As := [a1, a2, a3, a4, a5, a6, a7]) S hM hc hlk hR hf hP hD hE hA hS is hC hnd ad ha1 ha2 rfl rfl hW hls hdg kk
theorem rwSv8 {a1 a2 a3 a4 a5 a6 a7 a8 : Value} (S : CallFix p m c cc nL s args bw own) (hM : rcV l E y cc2 mL2 j [a1, a2, a3, a4, a5, a6, a7, a8] wc w1) (hc : cdS y cc2 mL2 none 8) (hlk : Cond.methodLink own idx y ∈ bw) (hR : j + 1 ≤ R.frames ∧ 8 + (mL2 + 11) + 32 * j ≤ R.locals) (hf : cells ≤ R.cells ∧ slots ≤ R.slots)
    (hP : va_P E.1 vwCl w H) (hD : va_D A w) (hE : en E A s s.heap) (hA : ∀ q, s.heap.size ≤ q → A q) (hS : va_S A s.heap H locs) (is : List Nat) (hC : is.map (fun i => w[i]?) = wc.map some) (hnd : va_nd is = true) (ad : List Nat) (ha1 : wc.map Prod.fst = ad) (ha2 : w1.map Prod.fst = ad)
    (hW : (rest.map fun v => v.category).sum ≤ 8) (hls : ls.size = nL) (hdg : decode cc pc = .ok (.invokestatic idx, 3))
    (kk : ∀ (H1 : Heap) (locs1 : List Loc), va_P E.1 vwCl (rp w is w1) H1 → va_D A (rp w is w1) → va_S A s.heap H1 locs1 → W p l e R s m args below meth c H1 locs1 cells slots Q (F0 m (pc + 3) ls rest)) : W p l e R s m args below meth c H locs cells slots Q (F0 m pc ls (a8 :: a7 :: a6 :: a5 :: a4 :: a3 :: a2 :: a1 :: rest)) :=
  rwSv (As := [a1, a2, a3, a4, a5, a6, a7, a8]) S hM hc hlk hR hf hP hD hE hA hS is hC hnd ad ha1 ha2 rfl rfl hW hls hdg kk
/-! Math -/
def iabs (x : Int32) : Int32 := if 0 ≤ x then x else 0 - x
def imax (x y : Int32) : Int32 := if x < y then y else x
def imin (x y : Int32) : Int32 := if y < x then y else x
theorem rw_abs (S : CallFix p m c cc nL s args bw own) (hls : ls.size = nL) (hlk : Cond.methodLink own idx Lib.Math.abs.name ∈ bw) (hR : 1 ≤ R.frames ∧ 24 ≤ R.locals) (hW : (rest.map fun v => v.category).sum ≤ 8) (hf : cells ≤ R.cells ∧ slots ≤ R.slots) {x : Int32} (hdg : decode cc pc = .ok (.invokestatic idx, 3))
    (kk : W p l e R s m args below meth c H locs cells slots Q (F0 m (pc + 3) ls (.int (iabs x) :: rest))) : W p l e R s m args below meth c H locs cells slots Q (F0 m pc ls (.int x :: rest)) :=
  va_mabs S.1 S.2.1 (S.2.2.1.trans hls.symm) S.2.2.2.1 (S.2.2.2.2 _ hlk) (S.2.2.2.2 _ bw_248) (S.2.2.2.2 _ bw_8) (S.2.2.2.2 _ bw_249) hR.1 (by omega) hf.1 hf.2 hdg kk
theorem rw_max (S : CallFix p m c cc nL s args bw own) (hls : ls.size = nL) (hlk : Cond.methodLink own idx Lib.Math.max.name ∈ bw) (hR : 1 ≤ R.frames ∧ 24 ≤ R.locals) (hW : (rest.map fun v => v.category).sum ≤ 8) (hf : cells ≤ R.cells ∧ slots ≤ R.slots) {x z : Int32} (hdg : decode cc pc = .ok (.invokestatic idx, 3))
    (kk : W p l e R s m args below meth c H locs cells slots Q (F0 m (pc + 3) ls (.int (imax x z) :: rest))) : W p l e R s m args below meth c H locs cells slots Q (F0 m pc ls (.int z :: .int x :: rest)) :=
  va_mmax S.1 S.2.1 (S.2.2.1.trans hls.symm) S.2.2.2.1 (S.2.2.2.2 _ hlk) (S.2.2.2.2 _ bw_76) (S.2.2.2.2 _ bw_8) (S.2.2.2.2 _ bw_77) hR.1 (by omega) hf.1 hf.2 hdg kk
theorem rw_min (S : CallFix p m c cc nL s args bw own) (hls : ls.size = nL) (hlk : Cond.methodLink own idx Lib.Math.min.name ∈ bw) (hR : 1 ≤ R.frames ∧ 24 ≤ R.locals) (hW : (rest.map fun v => v.category).sum ≤ 8) (hf : cells ≤ R.cells ∧ slots ≤ R.slots) {x z : Int32} (hdg : decode cc pc = .ok (.invokestatic idx, 3))
    (kk : W p l e R s m args below meth c H locs cells slots Q (F0 m (pc + 3) ls (.int (imin x z) :: rest))) : W p l e R s m args below meth c H locs cells slots Q (F0 m pc ls (.int z :: .int x :: rest)) :=
  va_mmin S.1 S.2.1 (S.2.2.1.trans hls.symm) S.2.2.2.1 (S.2.2.2.2 _ hlk) (S.2.2.2.2 _ bw_179) (S.2.2.2.2 _ bw_8) (S.2.2.2.2 _ bw_180) hR.1 (by omega) hf.1 hf.2 hdg kk
/-! ROWS over numbers below 2^31 -/
theorem rn_add (hx : p.tables.exec = Jvm.exec) (hb : c.code = cc) {a b : Nat} (hdg : decode cc pc = .ok (.iadd, 1)) (k : W p l e R s m args below meth c H locs cells slots Q (F0 m (pc + 1) ls (.int (nI (a + b)) :: rest))) : W p l e R s m args below meth c H locs cells slots Q (F0 m pc ls (.int (nI b) :: .int (nI a) :: rest)) :=
  lv_iadd hx hb hdg (by rw [nI_add]; exact k)
theorem rn_mul (hx : p.tables.exec = Jvm.exec) (hb : c.code = cc) {a b : Nat} (hdg : decode cc pc = .ok (.imul, 1)) (k : W p l e R s m args below meth c H locs cells slots Q (F0 m (pc + 1) ls (.int (nI (a * b)) :: rest))) : W p l e R s m args below meth c H locs cells slots Q (F0 m pc ls (.int (nI b) :: .int (nI a) :: rest)) :=
  lv_imul hx hb hdg (by rw [pk_mul]; exact k)
theorem rn_sub (hx : p.tables.exec = Jvm.exec) (hb : c.code = cc) {a b : Nat} (hdg : decode cc pc = .ok (.isub, 1)) (h : b ≤ a) (k : W p l e R s m args below meth c H locs cells slots Q (F0 m (pc + 1) ls (.int (nI (a - b)) :: rest))) : W p l e R s m args below meth c H locs cells slots Q (F0 m pc ls (.int (nI b) :: .int (nI a) :: rest)) :=
  lv_isub hx hb hdg (by rw [pk_sub h]; exact k)
theorem rn_div (hx : p.tables.exec = Jvm.exec) (hb : c.code = cc) {a b : Nat} (hdg : decode cc pc = .ok (.idiv, 1)) (h1 : a < 2 ^ 31) (h2 : 0 < b) (h3 : b < 2 ^ 31) (k : W p l e R s m args below meth c H locs cells slots Q (F0 m (pc + 1) ls (.int (nI (a / b)) :: rest))) : W p l e R s m args below meth c H locs cells slots Q (F0 m pc ls (.int (nI b) :: .int (nI a) :: rest)) :=
  lv_idiv hx hb hdg (nI_ne0 h2 h3) (by rw [pk_div h1 h2 h3]; exact k)
theorem rn_rem (hx : p.tables.exec = Jvm.exec) (hb : c.code = cc) {a b : Nat} (hdg : decode cc pc = .ok (.irem, 1)) (h1 : a < 2 ^ 31) (h2 : 0 < b) (h3 : b < 2 ^ 31) (k : W p l e R s m args below meth c H locs cells slots Q (F0 m (pc + 1) ls (.int (nI (a % b)) :: rest))) : W p l e R s m args below meth c H locs cells slots Q (F0 m pc ls (.int (nI b) :: .int (nI a) :: rest)) :=
  lv_irem hx hb hdg (nI_ne0 h2 h3) (by rw [pk_rem h1 h2 h3]; exact k)
theorem rn_inc (hx : p.tables.exec = Jvm.exec) (hb : c.code = cc) {i k : Nat} {n : Int} {a d : Nat} {lv lv' : List (Nat × Value)} (hdg : decode cc pc = .ok (.iinc i n, 3)) (h : lv_has ls nL lv) (hk : lv[k]? = some (i, .int (nI a))) (hv : Int32.ofInt n = nI d) (hn : i < nL) (hl : (i, Value.int (nI (a + d))) :: lv.filter (fun q => !(q.1 == i) && !(q.1 + 1 == i && q.2.category == 2)) = lv')
    (kk : ∀ ls' : Array Slot, lv_has ls' nL lv' → W p l e R s m args below meth c H locs cells slots Q (F0 m (pc + 3) ls' rest)) : W p l e R s m args below meth c H locs cells slots Q (F0 m pc ls rest) :=
  lv_iinc (v := nI (a + d)) hx hb hdg h hk (by rw [hv, nI_add]) hn hl kk
theorem rn_dec (hx : p.tables.exec = Jvm.exec) (hb : c.code = cc) {i k : Nat} {n : Int} {a : Nat} {lv lv' : List (Nat × Value)} (hdg : decode cc pc = .ok (.iinc i n, 3)) (h : lv_has ls nL lv) (hk : lv[k]? = some (i, .int (nI a))) (hv : Int32.ofInt n = -1) (h0 : 0 < a) (hn : i < nL) (hl : (i, Value.int (nI (a - 1))) :: lv.filter (fun q => !(q.1 == i) && !(q.1 + 1 == i && q.2.category == 2)) = lv')
    (kk : ∀ ls' : Array Slot, lv_has ls' nL lv' → W p l e R s m args below meth c H locs cells slots Q (F0 m (pc + 3) ls' rest)) : W p l e R s m args below meth c H locs cells slots Q (F0 m pc ls rest) :=
  lv_iinc (v := nI (a - 1)) hx hb hdg h hk (by rw [hv, sb_m1 h0]) hn hl kk
theorem rn_iald (hx : p.tables.exec = Jvm.exec) (hb : c.code = cc) {D : va_G} {cl : List vw_C} {tys : List (ClassId × FieldType)} {a : Nat} (hK : va_K D cl tys s) (hP : va_P D cl w H) (q0 t0 : Nat) {cA : ClassId} {n : Nat} {f : Nat → Int32} (ha : w[q0]? = some (a, .inl (cA, n, .inl f))) (ht : tys[t0]? = some (cA, .int)) {i : Nat} (hn : n < 2 ^ 31) (hin : i < n) (hdg : decode cc pc = .ok (.iaload, 1))
    (kk : W p l e R s m args below meth c H locs cells slots Q (F0 m (pc + 1) ls (.int (f i) :: rest))) : W p l e R s m args below meth c H locs cells slots Q (F0 m pc ls (.int (nI i) :: .ref a :: rest)) :=
  va_iald hx hb hK hP q0 t0 ha ht (vp_in_nI hin hn) hdg (by rw [nI_clamp (Nat.lt_trans hin hn)]; exact kk)
theorem rn_cald (hx : p.tables.exec = Jvm.exec) (hb : c.code = cc) {D : va_G} {cl : List vw_C} {tys : List (ClassId × FieldType)} {a : Nat} (hK : va_K D cl tys s) (hP : va_P D cl w H) (q0 t0 : Nat) {cA : ClassId} {n : Nat} {f : Nat → Int32} (ha : w[q0]? = some (a, .inl (cA, n, .inl f))) (ht : tys[t0]? = some (cA, .char)) {i : Nat} (hn : n < 2 ^ 31) (hin : i < n) (hdg : decode cc pc = .ok (.caload, 1))
    (kk : W p l e R s m args below meth c H locs cells slots Q (F0 m (pc + 1) ls (.int (f i) :: rest))) : W p l e R s m args below meth c H locs cells slots Q (F0 m pc ls (.int (nI i) :: .ref a :: rest)) :=
  va_cald hx hb hK hP q0 t0 ha ht (vp_in_nI hin hn) hdg (by rw [nI_clamp (Nat.lt_trans hin hn)]; exact kk)
theorem rn_iast (hx : p.tables.exec = Jvm.exec) (hb : c.code = cc) {D : va_G} {cl : List vw_C} {tys : List (ClassId × FieldType)} {a : Nat} (hK : va_K D cl tys s) (hP : va_P D cl w H) (hD : va_D A w) (hS : va_S A s.heap H locs) (q0 t0 : Nat) {cA : ClassId} {n : Nat} {f : Nat → Int32} (ha : w[q0]? = some (a, .inl (cA, n, .inl f))) (ht : tys[t0]? = some (cA, .int)) {i : Nat} {x : Int32} (hn : n < 2 ^ 31) (hin : i < n) (hdg : decode cc pc = .ok (.iastore, 1))
    (kk : ∀ (H1 : Heap) (locs1 : List Loc), va_P D cl (w.set q0 (a, .inl (cA, n, .inl (upd f i x)))) H1 → va_D A (w.set q0 (a, .inl (cA, n, .inl (upd f i x)))) → va_S A s.heap H1 locs1 → W p l e R s m args below meth c H1 locs1 cells slots Q (F0 m (pc + 1) ls rest)) : W p l e R s m args below meth c H locs cells slots Q (F0 m pc ls (.int x :: .int (nI i) :: .ref a :: rest)) :=
  va_iast hx hb hK hP hD hS q0 t0 ha ht (vp_in_nI hin hn) hdg (by rw [nI_clamp (Nat.lt_trans hin hn)]; exact kk)
theorem rn_icmp_lt (hx : p.tables.exec = Jvm.exec) (hb : c.code = cc) {a b : Nat} {off : Int} {tgt : Nat} (ha : a < 2 ^ 31) (hb2 : b < 2 ^ 31) (hdg : decode cc pc = .ok (.if_icmp .lt off, 3)) (ht : (pc : Int) + off = (tgt : Int)) (kt : a < b → W p l e R s m args below meth c H locs cells slots Q (F0 m tgt ls rest)) (kf : ¬ a < b → W p l e R s m args below meth c H locs cells slots Q (F0 m (pc + 3) ls rest)) : W p l e R s m args below meth c H locs cells slots Q (F0 m pc ls (.int (nI b) :: .int (nI a) :: rest)) :=
  lv_icmp_lt hx hb hdg ht (fun h => kt ((nI_ltI ha hb2).mp h)) (fun h => kf (fun z => h ((nI_ltI ha hb2).mpr z)))
theorem rn_icmp_ge (hx : p.tables.exec = Jvm.exec) (hb : c.code = cc) {a b : Nat} {off : Int} {tgt : Nat} (ha : a < 2 ^ 31) (hb2 : b < 2 ^ 31) (hdg : decode cc pc = .ok (.if_icmp .ge off, 3)) (ht : (pc : Int) + off = (tgt : Int)) (kt : b ≤ a → W p l e R s m args below meth c H locs cells slots Q (F0 m tgt ls rest)) (kf : ¬ b ≤ a → W p l e R s m args below meth c H locs cells slots Q (F0 m (pc + 3) ls rest)) : W p l e R s m args below meth c H locs cells slots Q (F0 m pc ls (.int (nI b) :: .int (nI a) :: rest)) :=
  lv_icmp_ge hx hb hdg ht (fun h => kt ((nI_leI hb2 ha).mp h)) (fun h => kf (fun z => h ((nI_leI hb2 ha).mpr z)))
theorem rn_icmp_gt (hx : p.tables.exec = Jvm.exec) (hb : c.code = cc) {a b : Nat} {off : Int} {tgt : Nat} (ha : a < 2 ^ 31) (hb2 : b < 2 ^ 31) (hdg : decode cc pc = .ok (.if_icmp .gt off, 3)) (ht : (pc : Int) + off = (tgt : Int)) (kt : b < a → W p l e R s m args below meth c H locs cells slots Q (F0 m tgt ls rest)) (kf : ¬ b < a → W p l e R s m args below meth c H locs cells slots Q (F0 m (pc + 3) ls rest)) : W p l e R s m args below meth c H locs cells slots Q (F0 m pc ls (.int (nI b) :: .int (nI a) :: rest)) :=
  lv_icmp_gt hx hb hdg ht (fun h => kt ((nI_ltI hb2 ha).mp h)) (fun h => kf (fun z => h ((nI_ltI hb2 ha).mpr z)))
theorem rn_icmp_le (hx : p.tables.exec = Jvm.exec) (hb : c.code = cc) {a b : Nat} {off : Int} {tgt : Nat} (ha : a < 2 ^ 31) (hb2 : b < 2 ^ 31) (hdg : decode cc pc = .ok (.if_icmp .le off, 3)) (ht : (pc : Int) + off = (tgt : Int)) (kt : a ≤ b → W p l e R s m args below meth c H locs cells slots Q (F0 m tgt ls rest)) (kf : ¬ a ≤ b → W p l e R s m args below meth c H locs cells slots Q (F0 m (pc + 3) ls rest)) : W p l e R s m args below meth c H locs cells slots Q (F0 m pc ls (.int (nI b) :: .int (nI a) :: rest)) :=
  lv_icmp_le hx hb hdg ht (fun h => kt ((nI_leI ha hb2).mp h)) (fun h => kf (fun z => h ((nI_leI ha hb2).mpr z)))
theorem rn_icmp_eq (hx : p.tables.exec = Jvm.exec) (hb : c.code = cc) {a b : Nat} {off : Int} {tgt : Nat} (ha : a < 2 ^ 31) (hb2 : b < 2 ^ 31) (hdg : decode cc pc = .ok (.if_icmp .eq off, 3)) (ht : (pc : Int) + off = (tgt : Int)) (kt : a = b → W p l e R s m args below meth c H locs cells slots Q (F0 m tgt ls rest)) (kf : ¬ a = b → W p l e R s m args below meth c H locs cells slots Q (F0 m (pc + 3) ls rest)) : W p l e R s m args below meth c H locs cells slots Q (F0 m pc ls (.int (nI b) :: .int (nI a) :: rest)) :=
  lv_icmp_eq hx hb hdg ht (fun h => kt ((nI_eq ha hb2).mp h)) (fun h => kf (fun z => h ((nI_eq ha hb2).mpr z)))
theorem rn_icmp_ne (hx : p.tables.exec = Jvm.exec) (hb : c.code = cc) {a b : Nat} {off : Int} {tgt : Nat} (ha : a < 2 ^ 31) (hb2 : b < 2 ^ 31) (hdg : decode cc pc = .ok (.if_icmp .ne off, 3)) (ht : (pc : Int) + off = (tgt : Int)) (kt : ¬ a = b → W p l e R s m args below meth c H locs cells slots Q (F0 m tgt ls rest)) (kf : a = b → W p l e R s m args below meth c H locs cells slots Q (F0 m (pc + 3) ls rest)) : W p l e R s m args below meth c H locs cells slots Q (F0 m pc ls (.int (nI b) :: .int (nI a) :: rest)) :=
  lv_icmp_ne hx hb hdg ht (fun h => kt (fun z => h ((nI_eq ha hb2).mpr z))) (fun h => kf ((nI_eq ha hb2).mp h))
theorem rn_if_eq (hx : p.tables.exec = Jvm.exec) (hb : c.code = cc) {a : Nat} {off : Int} {tgt : Nat} (ha : a < 2 ^ 31) (hdg : decode cc pc = .ok (.ifCond .eq off, 3)) (ht : (pc : Int) + off = (tgt : Int)) (kt : a = 0 → W p l e R s m args below meth c H locs cells slots Q (F0 m tgt ls rest)) (kf : ¬ a = 0 → W p l e R s m args below meth c H locs cells slots Q (F0 m (pc + 3) ls rest)) : W p l e R s m args below meth c H locs cells slots Q (F0 m pc ls (.int (nI a) :: rest)) :=
  lv_if_eq hx hb hdg ht (fun h => kt ((nI_z ha).mp h)) (fun h => kf (fun z => h ((nI_z ha).mpr z)))
theorem rn_if_ne (hx : p.tables.exec = Jvm.exec) (hb : c.code = cc) {a : Nat} {off : Int} {tgt : Nat} (ha : a < 2 ^ 31) (hdg : decode cc pc = .ok (.ifCond .ne off, 3)) (ht : (pc : Int) + off = (tgt : Int)) (kt : ¬ a = 0 → W p l e R s m args below meth c H locs cells slots Q (F0 m tgt ls rest)) (kf : a = 0 → W p l e R s m args below meth c H locs cells slots Q (F0 m (pc + 3) ls rest)) : W p l e R s m args below meth c H locs cells slots Q (F0 m pc ls (.int (nI a) :: rest)) :=
  lv_if_ne hx hb hdg ht (fun h => kt (fun z => h ((nI_z ha).mpr z))) (fun h => kf ((nI_z ha).mp h))
theorem rn_if_gt (hx : p.tables.exec = Jvm.exec) (hb : c.code = cc) {a : Nat} {off : Int} {tgt : Nat} (ha : a < 2 ^ 31) (hdg : decode cc pc = .ok (.ifCond .gt off, 3)) (ht : (pc : Int) + off = (tgt : Int)) (kt : 0 < a → W p l e R s m args below meth c H locs cells slots Q (F0 m tgt ls rest)) (kf : ¬ 0 < a → W p l e R s m args below meth c H locs cells slots Q (F0 m (pc + 3) ls rest)) : W p l e R s m args below meth c H locs cells slots Q (F0 m pc ls (.int (nI a) :: rest)) :=
  lv_if_gt hx hb hdg ht (fun h => kt ((nI_g ha).mp h)) (fun h => kf (fun z => h ((nI_g ha).mpr z)))
theorem rn_if_le (hx : p.tables.exec = Jvm.exec) (hb : c.code = cc) {a : Nat} {off : Int} {tgt : Nat} (ha : a < 2 ^ 31) (hdg : decode cc pc = .ok (.ifCond .le off, 3)) (ht : (pc : Int) + off = (tgt : Int)) (kt : a ≤ 0 → W p l e R s m args below meth c H locs cells slots Q (F0 m tgt ls rest)) (kf : ¬ a ≤ 0 → W p l e R s m args below meth c H locs cells slots Q (F0 m (pc + 3) ls rest)) : W p l e R s m args below meth c H locs cells slots Q (F0 m pc ls (.int (nI a) :: rest)) :=
  lv_if_le hx hb hdg ht (fun h => kt ((nI_l0 ha).mp h)) (fun h => kf (fun z => h ((nI_l0 ha).mpr z)))
theorem rn_tab (hx : p.tables.exec = Jvm.exec) (hb : c.code = cc) {t : Nat} {L : List Int32} (hT : va_T .int t 4 (fun j => .int (L.getD j 0)) A s s.heap) (hS : va_S A s.heap H locs) {i : Nat} (hi : i < 4) (hdg : decode cc pc = .ok (.iaload, 1)) (kk : W p l e R s m args below meth c H locs cells slots Q (F0 m (pc + 1) ls (.int (L.getD i 0) :: rest))) : W p l e R s m args below meth c H locs cells slots Q (F0 m pc ls (.int (nI i) :: .ref t :: rest)) :=
  va_ti hx hb hT hS (vp_in_nI hi (by omega)) (v := .int (L.getD i 0)) (by rw [nI_clamp (by omega)]) hdg kk
theorem rn_cast (hx : p.tables.exec = Jvm.exec) (hb : c.code = cc) {D : va_G} {cl : List vw_C} {tys : List (ClassId × FieldType)} {a : Nat} (hK : va_K D cl tys s) (hP : va_P D cl w H) (hD : va_D A w) (hS : va_S A s.heap H locs) (q0 t0 : Nat) {cA : ClassId} {n : Nat} {f : Nat → Int32} (ha : w[q0]? = some (a, .inl (cA, n, .inl f))) (ht : tys[t0]? = some (cA, .char)) {i : Nat} {x : Int32} (hn : n < 2 ^ 31) (hin : i < n) (hdg : decode cc pc = .ok (.castore, 1))
    (kk : ∀ (H1 : Heap) (locs1 : List Loc), va_P D cl (w.set q0 (a, .inl (cA, n, .inl (upd f i (vp_nar .char x))))) H1 → va_D A (w.set q0 (a, .inl (cA, n, .inl (upd f i (vp_nar .char x))))) → va_S A s.heap H1 locs1 → W p l e R s m args below meth c H1 locs1 cells slots Q (F0 m (pc + 1) ls rest)) : W p l e R s m args below meth c H locs cells slots Q (F0 m pc ls (.int x :: .int (nI i) :: .ref a :: rest)) :=
  va_cast hx hb hK hP hD hS q0 t0 ha ht (vp_in_nI hin hn) hdg (by rw [nI_clamp (Nat.lt_trans hin hn)]; exact kk)
theorem rw_copy (S : CallFix p m c cc nL s args bw own) (hls : ls.size = nL) (hlk : Cond.methodLink own idx arraycopyName ∈ bw) (hR : 1 ≤ R.frames ∧ 32 ≤ R.locals) (hW : (rest.map fun v => v.category).sum ≤ 4) {D : va_G} {cl : List vw_C} {tys : List (ClassId × FieldType)} (hK : va_K D cl tys s) (hP : va_P D cl w H) (hD : va_D A w) (hS : va_S A s.heap H locs) (q0 q1 : Nat) {a a0 : Nat} {cA : ClassId} {n0 n1 : Nat} {f g : Nat → Int32} (ha0 : w[q0]? = some (a0, .inl (cA, n0, .inl f))) (ha1 : w[q1]? = some (a, .inl (cA, n1, .inl g))) (ht : tys[0]? = some (cA, .int))
    {sp dp n : Nat} (h1 : sp < 2 ^ 31) (h2 : dp < 2 ^ 31) (h3 : n < 2 ^ 31) (h4 : sp + n ≤ n0) (h5 : dp + n ≤ n1) (hdg : decode cc pc = .ok (.invokestatic idx, 3))
    (kk : ∀ (H1 : Heap) (locs1 : List Loc), va_P D cl (w.set q1 (a, .inl (cA, n1, .inl (va_cpy f g sp dp n)))) H1 → va_D A (w.set q1 (a, .inl (cA, n1, .inl (va_cpy f g sp dp n)))) → va_S A s.heap H1 locs1 → W p l e R s m args below meth c H1 locs1 cells slots Q (F0 m (pc + 3) ls rest)) : W p l e R s m args below meth c H locs cells slots Q (F0 m pc ls (.int (nI n) :: .int (nI dp) :: .ref a :: .int (nI sp) :: .ref a0 :: rest)) := by
  refine va_copyi S.1 S.2.1 (S.2.2.1.trans hls.symm) S.2.2.2.1 (S.2.2.2.2 _ hlk) (S.2.2.2.2 _ bw_30) (S.2.2.2.2 _ bw_29) (S.2.2.2.2 _ bw_4) hK hP hD hS q0 q1 0 0 ha0 ha1 ht ht rfl (nI_pos h1) (nI_pos h2) (nI_pos h3) (by rw [nI_clamp h1, nI_clamp h3]; exact h4) (by rw [nI_clamp h2, nI_clamp h3]; exact h5) (fun _ _ => rfl) hR.1 (Nat.le_trans (Nat.add_le_add_right hW _) (Nat.le_trans (Nat.le_of_ble_eq_true rfl) hR.2)) hdg ?_
  rw [nI_clamp h1, nI_clamp h2, nI_clamp h3]
  exact kk
end RW
theorem fb_rng9 (x : Int32) : -2147483648 ≤ x.toInt ∧ x.toInt < 2147483648 := by
  have h1 := Int32.le_toInt x
  have h2 := Int32.toInt_lt x
  omega
theorem sw_out {x : Int32} {lo n : Nat} (h : ∀ a, a < n → ¬ x = nI (lo + a)) : x.toInt < (lo : Int) ∨ (lo : Int) + n - 1 < x.toInt := by
  rcases Int.lt_or_le x.toInt lo with c | c
  · exact Or.inl c
  · rcases Int.lt_or_le ((lo : Int) + n - 1) x.toInt with d | d
    · exact Or.inr d
    · exfalso
      have hb := fb_rng9 x
      refine h (x.toInt.toNat - lo) (by omega) (Int32.toInt_inj.mp ?_)
      rw [show lo + (x.toInt.toNat - lo) = x.toInt.toNat by omega, nI_toInt (by omega)]
      omega
def ix (x : Int32) : Nat := x.toNatClampNeg
theorem ix_nI {n : Nat} (h : n < 2 ^ 31) : ix (nI n) = n := nI_clamp h
theorem imin_l {a b : Nat} (h : a ≤ b) (hb : b < 2 ^ 31) : imin (nI a) (nI b) = nI a := by
  unfold imin
  by_cases e : b = a
  · subst e; rw [ite_self]
  · rw [if_neg (nI_nlt h hb)]
theorem imin_r {a b : Nat} (h : b ≤ a) (ha : a < 2 ^ 31) : imin (nI a) (nI b) = nI b := by
  unfold imin
  by_cases e : b = a
  · subst e; rw [ite_self]
  · rw [if_pos (nI_lt (Nat.lt_of_le_of_ne h e) ha)]
end
