def RX0 : String := "WorkspaceBox$Bytes"
def TX0 : u_T := fun k => match k with
  | _ => ("WorkspaceBox$Bytes", "cells", "[J", true)
def tyX0 : Nat → FieldType := fun k => match k with
  | _ => .array .long
abbrev wsX00 : List Cond := u_ws RX0 TX0 1
theorem nmX0 : ∀ a, a < 1 → ∀ b, b < 1 → a ≠ b → (TX0 a).2.1 ≠ (TX0 b).2.1 := by decide +kernel
theorem tyX0_ok : ∀ k, k < 1 → parseFieldDescriptor (TX0 k).2.2.1 = some (tyX0 k) := by decide +kernel
abbrev cX0_init : ByteArray := prog_2_method_1_code
def yX0_init : MethodName := ⟨RX0, "<init>", "(I)V"⟩
abbrev cX0_get : ByteArray := prog_2_method_2_code
def yX0_get : MethodName := ⟨RX0, "get", "(I)I"⟩
abbrev cX0_put : ByteArray := prog_2_method_3_code
def yX0_put : MethodName := ⟨RX0, "put", "(II)V"⟩
def RX1 : String := "WorkspaceBox$Grom"
def TX1 : u_T := fun k => match k with
  | 0 => ("WorkspaceBox$Grom", "cells", "LWorkspaceBox$Bytes;", true)
  | 1 => ("WorkspaceBox$Grom", "address", "I", false)
  | 2 => ("WorkspaceBox$Grom", "buffer", "I", false)
  | _ => ("WorkspaceBox$Grom", "latchFull", "Z", false)
def tyX1 : Nat → FieldType := fun k => match k with
  | 0 => .object "WorkspaceBox$Bytes"
  | 1 => .int
  | 2 => .int
  | _ => .boolean
abbrev wsX10 : List Cond := u_ws RX1 TX1 4
theorem nmX1 : ∀ a, a < 4 → ∀ b, b < 4 → a ≠ b → (TX1 a).2.1 ≠ (TX1 b).2.1 := by decide +kernel
theorem tyX1_ok : ∀ k, k < 4 → parseFieldDescriptor (TX1 k).2.2.1 = some (tyX1 k) := by decide +kernel
abbrev cX1_init : ByteArray := prog_3_method_1_code
def yX1_init : MethodName := ⟨RX1, "<init>", "()V"⟩
abbrev cX1_readData : ByteArray := prog_3_method_2_code
def yX1_readData : MethodName := ⟨RX1, "readData", "()I"⟩
abbrev cX1_readAddress : ByteArray := prog_3_method_3_code
def yX1_readAddress : MethodName := ⟨RX1, "readAddress", "()I"⟩
abbrev cX1_writeAddress : ByteArray := prog_3_method_4_code
def yX1_writeAddress : MethodName := ⟨RX1, "writeAddress", "(I)V"⟩
def RX2 : String := "WorkspaceBox$Memory"
def TX2 : u_T := fun k => match k with
  | 0 => ("WorkspaceBox$Memory", "rom", "LWorkspaceBox$Bytes;", true)
  | 1 => ("WorkspaceBox$Memory", "ram", "LWorkspaceBox$Bytes;", true)
  | 2 => ("WorkspaceBox$Memory", "pad", "LWorkspaceBox$Bytes;", true)
  | 3 => ("WorkspaceBox$Memory", "picture", "LWorkspaceBox$Picture;", true)
  | _ => ("WorkspaceBox$Memory", "grom", "LWorkspaceBox$Grom;", true)
def tyX2 : Nat → FieldType := fun k => match k with
  | 0 => .object "WorkspaceBox$Bytes"
  | 1 => .object "WorkspaceBox$Bytes"
  | 2 => .object "WorkspaceBox$Bytes"
  | 3 => .object "WorkspaceBox$Picture"
  | _ => .object "WorkspaceBox$Grom"
abbrev wsX20 : List Cond := u_ws RX2 TX2 5
theorem nmX2 : ∀ a, a < 5 → ∀ b, b < 5 → a ≠ b → (TX2 a).2.1 ≠ (TX2 b).2.1 := by decide +kernel
theorem tyX2_ok : ∀ k, k < 5 → parseFieldDescriptor (TX2 k).2.2.1 = some (tyX2 k) := by decide +kernel
abbrev cX2_init : ByteArray := prog_4_method_1_code
def yX2_init : MethodName := ⟨RX2, "<init>", "(LWorkspaceBox$Picture;LWorkspaceBox$Grom;)V"⟩
abbrev cX2_wordAt : ByteArray := prog_4_method_2_code
def yX2_wordAt : MethodName := ⟨RX2, "wordAt", "(I)I"⟩
abbrev cX2_putWord : ByteArray := prog_4_method_3_code
def yX2_putWord : MethodName := ⟨RX2, "putWord", "(II)V"⟩
abbrev cX2_byteAt : ByteArray := prog_4_method_4_code
def yX2_byteAt : MethodName := ⟨RX2, "byteAt", "(I)I"⟩
abbrev cX2_putByte : ByteArray := prog_4_method_5_code
def yX2_putByte : MethodName := ⟨RX2, "putByte", "(II)V"⟩
abbrev cX2_storedAt : ByteArray := prog_4_method_6_code
def yX2_storedAt : MethodName := ⟨RX2, "storedAt", "(I)I"⟩
abbrev cX2_store : ByteArray := prog_4_method_7_code
def yX2_store : MethodName := ⟨RX2, "store", "(II)V"⟩
def RX3 : String := "WorkspaceBox$Picture"
def TX3 : u_T := fun k => match k with
  | 0 => ("WorkspaceBox$Picture", "cells", "LWorkspaceBox$Bytes;", true)
  | 1 => ("WorkspaceBox$Picture", "registers", "[I", true)
  | 2 => ("WorkspaceBox$Picture", "address", "I", false)
  | 3 => ("WorkspaceBox$Picture", "buffer", "I", false)
  | 4 => ("WorkspaceBox$Picture", "latch", "I", false)
  | _ => ("WorkspaceBox$Picture", "shown", "Z", false)
def tyX3 : Nat → FieldType := fun k => match k with
  | 0 => .object "WorkspaceBox$Bytes"
  | 1 => .array .int
  | 2 => .int
  | 3 => .int
  | 4 => .int
  | _ => .boolean
abbrev wsX30 : List Cond := u_ws RX3 TX3 6
theorem nmX3 : ∀ a, a < 6 → ∀ b, b < 6 → a ≠ b → (TX3 a).2.1 ≠ (TX3 b).2.1 := by decide +kernel
theorem tyX3_ok : ∀ k, k < 6 → parseFieldDescriptor (TX3 k).2.2.1 = some (tyX3 k) := by decide +kernel
abbrev cX3_init : ByteArray := prog_5_method_1_code
def yX3_init : MethodName := ⟨RX3, "<init>", "()V"⟩
abbrev cX3_readData : ByteArray := prog_5_method_2_code
def yX3_readData : MethodName := ⟨RX3, "readData", "()I"⟩
abbrev cX3_readStatus : ByteArray := prog_5_method_3_code
def yX3_readStatus : MethodName := ⟨RX3, "readStatus", "()I"⟩
abbrev cX3_writeData : ByteArray := prog_5_method_4_code
def yX3_writeData : MethodName := ⟨RX3, "writeData", "(I)V"⟩
abbrev cX3_writeControl : ByteArray := prog_5_method_5_code
def yX3_writeControl : MethodName := ⟨RX3, "writeControl", "(I)V"⟩
abbrev cX3_asksForInterrupt : ByteArray := prog_5_method_6_code
def yX3_asksForInterrupt : MethodName := ⟨RX3, "asksForInterrupt", "()Z"⟩
abbrev cX3_colourAt : ByteArray := prog_5_method_7_code
def yX3_colourAt : MethodName := ⟨RX3, "colourAt", "(II)I"⟩
def RX4 : String := "WorkspaceBox$Processor"
def TX4 : u_T := fun k => match k with
  | 0 => ("WorkspaceBox$Processor", "memory", "LWorkspaceBox$Memory;", true)
  | 1 => ("WorkspaceBox$Processor", "picture", "LWorkspaceBox$Picture;", true)
  | 2 => ("WorkspaceBox$Processor", "wires", "LWorkspaceBox$Wires;", true)
  | 3 => ("WorkspaceBox$Processor", "pc", "I", false)
  | 4 => ("WorkspaceBox$Processor", "wp", "I", false)
  | 5 => ("WorkspaceBox$Processor", "st", "I", false)
  | 6 => ("WorkspaceBox$Processor", "mode", "I", false)
  | 7 => ("WorkspaceBox$Processor", "instructionsDone", "I", false)
  | 8 => ("WorkspaceBox$Processor", "interruptsDone", "I", false)
  | 9 => ("WorkspaceBox$Processor", "told", "I", false)
  | 10 => ("WorkspaceBox$Processor", "instruction", "I", false)
  | _ => ("WorkspaceBox$Processor", "shielded", "Z", false)
def tyX4 : Nat → FieldType := fun k => match k with
  | 0 => .object "WorkspaceBox$Memory"
  | 1 => .object "WorkspaceBox$Picture"
  | 2 => .object "WorkspaceBox$Wires"
  | 3 => .int
  | 4 => .int
  | 5 => .int
  | 6 => .int
  | 7 => .int
  | 8 => .int
  | 9 => .int
  | 10 => .int
  | _ => .boolean
abbrev wsX40 : List Cond := u_ws RX4 TX4 12
theorem nmX4 : ∀ a, a < 12 → ∀ b, b < 12 → a ≠ b → (TX4 a).2.1 ≠ (TX4 b).2.1 := by decide +kernel
theorem tyX4_ok : ∀ k, k < 12 → parseFieldDescriptor (TX4 k).2.2.1 = some (tyX4 k) := by decide +kernel
abbrev cX4_init : ByteArray := prog_6_method_1_code
def yX4_init : MethodName := ⟨RX4, "<init>", "(LWorkspaceBox$Memory;LWorkspaceBox$Picture;LWorkspaceBox$Wires;)V"⟩
abbrev cX4_restart : ByteArray := prog_6_method_2_code
def yX4_restart : MethodName := ⟨RX4, "restart", "()V"⟩
abbrev cX4_fetch : ByteArray := prog_6_method_3_code
def yX4_fetch : MethodName := ⟨RX4, "fetch", "()Z"⟩
abbrev cX4_takeInterrupt : ByteArray := prog_6_method_4_code
def yX4_takeInterrupt : MethodName := ⟨RX4, "takeInterrupt", "()V"⟩
abbrev cX4_askedLevel : ByteArray := prog_6_method_5_code
def yX4_askedLevel : MethodName := ⟨RX4, "askedLevel", "()I"⟩
abbrev cX4_fetchInstruction : ByteArray := prog_6_method_6_code
def yX4_fetchInstruction : MethodName := ⟨RX4, "fetchInstruction", "()Z"⟩
abbrev cX4_isExecute : ByteArray := prog_6_method_7_code
def yX4_isExecute : MethodName := ⟨RX4, "isExecute", "(I)Z"⟩
abbrev cX4_isNone : ByteArray := prog_6_method_8_code
def yX4_isNone : MethodName := ⟨RX4, "isNone", "(I)Z"⟩
abbrev cX4_perform : ByteArray := prog_6_method_9_code
def yX4_perform : MethodName := ⟨RX4, "perform", "()V"⟩
abbrev cX4_nextWord : ByteArray := prog_6_method_10_code
def yX4_nextWord : MethodName := ⟨RX4, "nextWord", "()I"⟩
abbrev cX4_registerAddress : ByteArray := prog_6_method_11_code
def yX4_registerAddress : MethodName := ⟨RX4, "registerAddress", "(I)I"⟩
abbrev cX4_operandAddress : ByteArray := prog_6_method_12_code
def yX4_operandAddress : MethodName := ⟨RX4, "operandAddress", "(IZ)I"⟩
abbrev cX4_enter : ByteArray := prog_6_method_13_code
def yX4_enter : MethodName := ⟨RX4, "enter", "(I)V"⟩
abbrev cX4_flag : ByteArray := prog_6_method_14_code
def yX4_flag : MethodName := ⟨RX4, "flag", "(IZ)V"⟩
abbrev cX4_compare : ByteArray := prog_6_method_15_code
def yX4_compare : MethodName := ⟨RX4, "compare", "(IIZ)V"⟩
abbrev cX4_parity : ByteArray := prog_6_method_16_code
def yX4_parity : MethodName := ⟨RX4, "parity", "(I)V"⟩
abbrev cX4_add : ByteArray := prog_6_method_17_code
def yX4_add : MethodName := ⟨RX4, "add", "(IIZ)I"⟩
abbrev cX4_subtract : ByteArray := prog_6_method_18_code
def yX4_subtract : MethodName := ⟨RX4, "subtract", "(IIZ)I"⟩
abbrev cX4_doImmediate : ByteArray := prog_6_method_19_code
def yX4_doImmediate : MethodName := ⟨RX4, "doImmediate", "(I)V"⟩
abbrev cX4_doControl : ByteArray := prog_6_method_20_code
def yX4_doControl : MethodName := ⟨RX4, "doControl", "(I)V"⟩
abbrev cX4_giveBack : ByteArray := prog_6_method_21_code
def yX4_giveBack : MethodName := ⟨RX4, "giveBack", "()V"⟩
abbrev cX4_doOneOperand : ByteArray := prog_6_method_22_code
def yX4_doOneOperand : MethodName := ⟨RX4, "doOneOperand", "(I)V"⟩
abbrev cX4_changed : ByteArray := prog_6_method_23_code
def yX4_changed : MethodName := ⟨RX4, "changed", "(II)I"⟩
abbrev cX4_inverted : ByteArray := prog_6_method_24_code
def yX4_inverted : MethodName := ⟨RX4, "inverted", "(I)I"⟩
abbrev cX4_sizeOf : ByteArray := prog_6_method_25_code
def yX4_sizeOf : MethodName := ⟨RX4, "sizeOf", "(I)I"⟩
abbrev cX4_doShift : ByteArray := prog_6_method_26_code
def yX4_doShift : MethodName := ⟨RX4, "doShift", "(I)V"⟩
abbrev cX4_shifted : ByteArray := prog_6_method_27_code
def yX4_shifted : MethodName := ⟨RX4, "shifted", "(II)I"⟩
abbrev cX4_doJump : ByteArray := prog_6_method_28_code
def yX4_doJump : MethodName := ⟨RX4, "doJump", "(I)V"⟩
abbrev cX4_jumps : ByteArray := prog_6_method_29_code
def yX4_jumps : MethodName := ⟨RX4, "jumps", "(I)Z"⟩
abbrev cX4_baseBit : ByteArray := prog_6_method_30_code
def yX4_baseBit : MethodName := ⟨RX4, "baseBit", "()I"⟩
abbrev cX4_doSingleBit : ByteArray := prog_6_method_31_code
def yX4_doSingleBit : MethodName := ⟨RX4, "doSingleBit", "(I)V"⟩
abbrev cX4_doManyBits : ByteArray := prog_6_method_32_code
def yX4_doManyBits : MethodName := ⟨RX4, "doManyBits", "(I)V"⟩
abbrev cX4_sendBits : ByteArray := prog_6_method_33_code
def yX4_sendBits : MethodName := ⟨RX4, "sendBits", "(III)V"⟩
abbrev cX4_comingBits : ByteArray := prog_6_method_34_code
def yX4_comingBits : MethodName := ⟨RX4, "comingBits", "(II)I"⟩
abbrev cX4_putOperand : ByteArray := prog_6_method_35_code
def yX4_putOperand : MethodName := ⟨RX4, "putOperand", "(IIZ)V"⟩
abbrev cX4_doWithRegister : ByteArray := prog_6_method_36_code
def yX4_doWithRegister : MethodName := ⟨RX4, "doWithRegister", "(I)V"⟩
abbrev cX4_doLongArithmetic : ByteArray := prog_6_method_37_code
def yX4_doLongArithmetic : MethodName := ⟨RX4, "doLongArithmetic", "(I)V"⟩
abbrev cX4_divide : ByteArray := prog_6_method_38_code
def yX4_divide : MethodName := ⟨RX4, "divide", "(III)V"⟩
abbrev cX4_doTwoOperands : ByteArray := prog_6_method_39_code
def yX4_doTwoOperands : MethodName := ⟨RX4, "doTwoOperands", "(I)V"⟩
abbrev cX4_combined : ByteArray := prog_6_method_40_code
def yX4_combined : MethodName := ⟨RX4, "combined", "(IIIZ)I"⟩
def RX5 : String := "WorkspaceBox$Wires"
def TX5 : u_T := fun k => match k with
  | 0 => ("WorkspaceBox$Wires", "picture", "LWorkspaceBox$Picture;", true)
  | 1 => ("WorkspaceBox$Wires", "went", "[J", true)
  | _ => ("WorkspaceBox$Wires", "keysDown", "J", false)
def tyX5 : Nat → FieldType := fun k => match k with
  | 0 => .object "WorkspaceBox$Picture"
  | 1 => .array .long
  | _ => .long
abbrev wsX50 : List Cond := u_ws RX5 TX5 3
theorem nmX5 : ∀ a, a < 3 → ∀ b, b < 3 → a ≠ b → (TX5 a).2.1 ≠ (TX5 b).2.1 := by decide +kernel
theorem tyX5_ok : ∀ k, k < 3 → parseFieldDescriptor (TX5 k).2.2.1 = some (tyX5 k) := by decide +kernel
abbrev cX5_init : ByteArray := prog_7_method_1_code
def yX5_init : MethodName := ⟨RX5, "<init>", "(LWorkspaceBox$Picture;)V"⟩
abbrev cX5_exists : ByteArray := prog_7_method_2_code
def yX5_exists : MethodName := ⟨RX5, "exists", "(I)Z"⟩
abbrev cX5_sent : ByteArray := prog_7_method_3_code
def yX5_sent : MethodName := ⟨RX5, "sent", "(I)I"⟩
abbrev cX5_send : ByteArray := prog_7_method_4_code
def yX5_send : MethodName := ⟨RX5, "send", "(II)V"⟩
abbrev cX5_coming : ByteArray := prog_7_method_5_code
def yX5_coming : MethodName := ⟨RX5, "coming", "(I)I"⟩
abbrev cX5_press : ByteArray := prog_7_method_6_code
def yX5_press : MethodName := ⟨RX5, "press", "(IIZ)V"⟩
def RX6 : String := "WorkspaceBox"
def TX6 : u_T := fun k => match k with
  | 0 => ("WorkspaceBox", "tape", "LWorkspaceBox$Bytes;", true)
  | 1 => ("WorkspaceBox", "picture", "LWorkspaceBox$Picture;", true)
  | 2 => ("WorkspaceBox", "grom", "LWorkspaceBox$Grom;", true)
  | 3 => ("WorkspaceBox", "wires", "LWorkspaceBox$Wires;", true)
  | 4 => ("WorkspaceBox", "memory", "LWorkspaceBox$Memory;", true)
  | 5 => ("WorkspaceBox", "processor", "LWorkspaceBox$Processor;", true)
  | _ => ("WorkspaceBox", "tapeLength", "I", false)
def tyX6 : Nat → FieldType := fun k => match k with
  | 0 => .object "WorkspaceBox$Bytes"
  | 1 => .object "WorkspaceBox$Picture"
  | 2 => .object "WorkspaceBox$Grom"
  | 3 => .object "WorkspaceBox$Wires"
  | 4 => .object "WorkspaceBox$Memory"
  | 5 => .object "WorkspaceBox$Processor"
  | _ => .int
abbrev wsX60 : List Cond := u_ws RX6 TX6 7
theorem nmX6 : ∀ a, a < 7 → ∀ b, b < 7 → a ≠ b → (TX6 a).2.1 ≠ (TX6 b).2.1 := by decide +kernel
theorem tyX6_ok : ∀ k, k < 7 → parseFieldDescriptor (TX6 k).2.2.1 = some (tyX6 k) := by decide +kernel
abbrev cX6_init : ByteArray := prog_1_method_1_code
def yX6_init : MethodName := ⟨RX6, "<init>", "()V"⟩
abbrev cX6_feed : ByteArray := prog_1_method_2_code
def yX6_feed : MethodName := ⟨RX6, "feed", "(IIIII)I"⟩
abbrev cX6_append : ByteArray := prog_1_method_3_code
def yX6_append : MethodName := ⟨RX6, "append", "(I)V"⟩
abbrev cX6_end : ByteArray := prog_1_method_4_code
def yX6_end : MethodName := ⟨RX6, "end", "(I)I"⟩
abbrev cX6_load : ByteArray := prog_1_method_5_code
def yX6_load : MethodName := ⟨RX6, "load", "(II)I"⟩
abbrev cX6_sizeOfArea : ByteArray := prog_1_method_6_code
def yX6_sizeOfArea : MethodName := ⟨RX6, "sizeOfArea", "(I)I"⟩
abbrev cX6_putInArea : ByteArray := prog_1_method_7_code
def yX6_putInArea : MethodName := ⟨RX6, "putInArea", "(III)V"⟩
abbrev cX6_reset : ByteArray := prog_1_method_8_code
def yX6_reset : MethodName := ⟨RX6, "reset", "()V"⟩
abbrev cX6_run : ByteArray := prog_1_method_9_code
def yX6_run : MethodName := ⟨RX6, "run", "(I)I"⟩
abbrev cX6_state : ByteArray := prog_1_method_10_code
def yX6_state : MethodName := ⟨RX6, "state", "(I)I"⟩
abbrev cX6_peek : ByteArray := prog_1_method_11_code
def yX6_peek : MethodName := ⟨RX6, "peek", "(I)I"⟩
abbrev cX6_set : ByteArray := prog_1_method_12_code
def yX6_set : MethodName := ⟨RX6, "set", "(II)Z"⟩
abbrev cX6_picture : ByteArray := prog_1_method_13_code
def yX6_picture : MethodName := ⟨RX6, "picture", "(I)I"⟩
abbrev cX6_vram : ByteArray := prog_1_method_14_code
def yX6_vram : MethodName := ⟨RX6, "vram", "(I)I"⟩
abbrev cX6_grom : ByteArray := prog_1_method_15_code
def yX6_grom : MethodName := ⟨RX6, "grom", "(I)I"⟩
abbrev cX6_frame : ByteArray := prog_1_method_16_code
def yX6_frame : MethodName := ⟨RX6, "frame", "()V"⟩
abbrev cX6_interrupt : ByteArray := prog_1_method_17_code
def yX6_interrupt : MethodName := ⟨RX6, "interrupt", "(I)Z"⟩
abbrev cX6_key : ByteArray := prog_1_method_18_code
def yX6_key : MethodName := ⟨RX6, "key", "(IIZ)Z"⟩
abbrev cX6_out : ByteArray := prog_1_method_19_code
def yX6_out : MethodName := ⟨RX6, "out", "(I)I"⟩
abbrev cX6_in : ByteArray := prog_1_method_20_code
def yX6_in : MethodName := ⟨RX6, "in", "(I)I"⟩
abbrev cX6_pixel : ByteArray := prog_1_method_21_code
def yX6_pixel : MethodName := ⟨RX6, "pixel", "(II)I"⟩
def RX7 : String := "WorkspaceBoxModel"
def TX7 : u_T := fun k => match k with
  | 0 => ("WorkspaceBoxModel", "thrown", "I", false)
  | 1 => ("WorkspaceBoxModel", "rom", "[B", true)
  | 2 => ("WorkspaceBoxModel", "ram", "[B", true)
  | 3 => ("WorkspaceBoxModel", "vram", "[B", true)
  | 4 => ("WorkspaceBoxModel", "groms", "[B", true)
  | 5 => ("WorkspaceBoxModel", "pictureAt", "I", false)
  | 6 => ("WorkspaceBoxModel", "pictureBuffer", "I", false)
  | 7 => ("WorkspaceBoxModel", "pictureLatch", "I", false)
  | 8 => ("WorkspaceBoxModel", "pictureFull", "Z", false)
  | 9 => ("WorkspaceBoxModel", "shown", "Z", false)
  | 10 => ("WorkspaceBoxModel", "pictures", "[I", true)
  | 11 => ("WorkspaceBoxModel", "gromAt", "I", false)
  | 12 => ("WorkspaceBoxModel", "gromBuffer", "I", false)
  | 13 => ("WorkspaceBoxModel", "gromFull", "Z", false)
  | 14 => ("WorkspaceBoxModel", "outs", "[Z", true)
  | 15 => ("WorkspaceBoxModel", "keys", "[Z", true)
  | 16 => ("WorkspaceBoxModel", "pc", "I", false)
  | 17 => ("WorkspaceBoxModel", "wp", "I", false)
  | 18 => ("WorkspaceBoxModel", "st", "I", false)
  | 19 => ("WorkspaceBoxModel", "how", "I", false)
  | 20 => ("WorkspaceBoxModel", "doneEver", "I", false)
  | 21 => ("WorkspaceBoxModel", "interrupts", "I", false)
  | 22 => ("WorkspaceBoxModel", "asked", "[Z", true)
  | 23 => ("WorkspaceBoxModel", "behind", "Z", false)
  | 24 => ("WorkspaceBoxModel", "tape", "[I", true)
  | _ => ("WorkspaceBoxModel", "taped", "I", false)
def tyX7 : Nat → FieldType := fun k => match k with
  | 0 => .int
  | 1 => .array .byte
  | 2 => .array .byte
  | 3 => .array .byte
  | 4 => .array .byte
  | 5 => .int
  | 6 => .int
  | 7 => .int
  | 8 => .boolean
  | 9 => .boolean
  | 10 => .array .int
  | 11 => .int
  | 12 => .int
  | 13 => .boolean
  | 14 => .array .boolean
  | 15 => .array .boolean
  | 16 => .int
  | 17 => .int
  | 18 => .int
  | 19 => .int
  | 20 => .int
  | 21 => .int
  | 22 => .array .boolean
  | 23 => .boolean
  | 24 => .array .int
  | _ => .int
abbrev wsX70 : List Cond := u_ws RX7 TX7 26
theorem nmX7 : ∀ a, a < 26 → ∀ b, b < 26 → a ≠ b → (TX7 a).2.1 ≠ (TX7 b).2.1 := by decide +kernel
theorem tyX7_ok : ∀ k, k < 26 → parseFieldDescriptor (TX7 k).2.2.1 = some (tyX7 k) := by decide +kernel
abbrev cX7_init : ByteArray := prog_9_method_1_code
def yX7_init : MethodName := ⟨RX7, "<init>", "()V"⟩
abbrev cX7_in : ByteArray := prog_9_method_3_code
def yX7_in : MethodName := ⟨RX7, "in", "(III)Z"⟩
abbrev cX7_plain : ByteArray := prog_9_method_4_code
def yX7_plain : MethodName := ⟨RX7, "plain", "(I)I"⟩
abbrev cX7_isPort : ByteArray := prog_9_method_5_code
def yX7_isPort : MethodName := ⟨RX7, "isPort", "(I)Z"⟩
abbrev cX7_readByte : ByteArray := prog_9_method_6_code
def yX7_readByte : MethodName := ⟨RX7, "readByte", "(I)I"⟩
abbrev cX7_writeByte : ByteArray := prog_9_method_7_code
def yX7_writeByte : MethodName := ⟨RX7, "writeByte", "(II)V"⟩
abbrev cX7_readWord : ByteArray := prog_9_method_8_code
def yX7_readWord : MethodName := ⟨RX7, "readWord", "(I)I"⟩
abbrev cX7_writeWord : ByteArray := prog_9_method_9_code
def yX7_writeWord : MethodName := ⟨RX7, "writeWord", "(II)V"⟩
abbrev cX7_nextPicture : ByteArray := prog_9_method_10_code
def yX7_nextPicture : MethodName := ⟨RX7, "nextPicture", "()V"⟩
abbrev cX7_nextGrom : ByteArray := prog_9_method_11_code
def yX7_nextGrom : MethodName := ⟨RX7, "nextGrom", "()V"⟩
abbrev cX7_readPort : ByteArray := prog_9_method_12_code
def yX7_readPort : MethodName := ⟨RX7, "readPort", "(II)I"⟩
abbrev cX7_writePort : ByteArray := prog_9_method_13_code
def yX7_writePort : MethodName := ⟨RX7, "writePort", "(III)V"⟩
abbrev cX7_commands : ByteArray := prog_9_method_14_code
def yX7_commands : MethodName := ⟨RX7, "commands", "(I)V"⟩
abbrev cX7_inOf : ByteArray := prog_9_method_15_code
def yX7_inOf : MethodName := ⟨RX7, "inOf", "(I)I"⟩
abbrev cX7_registerAt : ByteArray := prog_9_method_16_code
def yX7_registerAt : MethodName := ⟨RX7, "registerAt", "(I)I"⟩
abbrev cX7_register : ByteArray := prog_9_method_17_code
def yX7_register : MethodName := ⟨RX7, "register", "(I)I"⟩
abbrev cX7_register_ : ByteArray := prog_9_method_18_code
def yX7_register_ : MethodName := ⟨RX7, "register", "(II)V"⟩
abbrev cX7_nextWord : ByteArray := prog_9_method_19_code
def yX7_nextWord : MethodName := ⟨RX7, "nextWord", "()I"⟩
abbrev cX7_flag : ByteArray := prog_9_method_20_code
def yX7_flag : MethodName := ⟨RX7, "flag", "(IZ)V"⟩
abbrev cX7_has : ByteArray := prog_9_method_21_code
def yX7_has : MethodName := ⟨RX7, "has", "(I)Z"⟩
abbrev cX7_signed : ByteArray := prog_9_method_22_code
def yX7_signed : MethodName := ⟨RX7, "signed", "(IZ)I"⟩
abbrev cX7_compare : ByteArray := prog_9_method_23_code
def yX7_compare : MethodName := ⟨RX7, "compare", "(IIZ)V"⟩
abbrev cX7_odd : ByteArray := prog_9_method_24_code
def yX7_odd : MethodName := ⟨RX7, "odd", "(I)V"⟩
abbrev cX7_operand : ByteArray := prog_9_method_25_code
def yX7_operand : MethodName := ⟨RX7, "operand", "(IZ)I"⟩
abbrev cX7_read : ByteArray := prog_9_method_26_code
def yX7_read : MethodName := ⟨RX7, "read", "(IZ)I"⟩
abbrev cX7_write : ByteArray := prog_9_method_27_code
def yX7_write : MethodName := ⟨RX7, "write", "(IIZ)V"⟩
abbrev cX7_plus : ByteArray := prog_9_method_28_code
def yX7_plus : MethodName := ⟨RX7, "plus", "(IIZ)I"⟩
abbrev cX7_less : ByteArray := prog_9_method_29_code
def yX7_less : MethodName := ⟨RX7, "less", "(IIZ)I"⟩
abbrev cX7_enter : ByteArray := prog_9_method_30_code
def yX7_enter : MethodName := ⟨RX7, "enter", "(I)V"⟩
abbrev cX7_two : ByteArray := prog_9_method_31_code
def yX7_two : MethodName := ⟨RX7, "two", "(I)Z"⟩
abbrev cX7_base : ByteArray := prog_9_method_32_code
def yX7_base : MethodName := ⟨RX7, "base", "()I"⟩
abbrev cX7_withRegister : ByteArray := prog_9_method_33_code
def yX7_withRegister : MethodName := ⟨RX7, "withRegister", "(I)Z"⟩
abbrev cX7_divide : ByteArray := prog_9_method_34_code
def yX7_divide : MethodName := ⟨RX7, "divide", "(III)V"⟩
abbrev cX7_bits : ByteArray := prog_9_method_35_code
def yX7_bits : MethodName := ⟨RX7, "bits", "(IIZ)V"⟩
abbrev cX7_shift : ByteArray := prog_9_method_36_code
def yX7_shift : MethodName := ⟨RX7, "shift", "(I)V"⟩
abbrev cX7_one : ByteArray := prog_9_method_37_code
def yX7_one : MethodName := ⟨RX7, "one", "(I)Z"⟩
abbrev cX7_changes : ByteArray := prog_9_method_38_code
def yX7_changes : MethodName := ⟨RX7, "changes", "(II)V"⟩
abbrev cX7_told : ByteArray := prog_9_method_39_code
def yX7_told : MethodName := ⟨RX7, "told", "(I)Z"⟩
abbrev cX7_comesBack : ByteArray := prog_9_method_40_code
def yX7_comesBack : MethodName := ⟨RX7, "comesBack", "()V"⟩
abbrev cX7_immediate : ByteArray := prog_9_method_41_code
def yX7_immediate : MethodName := ⟨RX7, "immediate", "(III)V"⟩
abbrev cX7_jumps : ByteArray := prog_9_method_42_code
def yX7_jumps : MethodName := ⟨RX7, "jumps", "(I)Z"⟩
abbrev cX7_jump : ByteArray := prog_9_method_43_code
def yX7_jump : MethodName := ⟨RX7, "jump", "(I)V"⟩
abbrev cX7_does : ByteArray := prog_9_method_44_code
def yX7_does : MethodName := ⟨RX7, "does", "(I)Z"⟩
abbrev cX7_isAsked : ByteArray := prog_9_method_45_code
def yX7_isAsked : MethodName := ⟨RX7, "isAsked", "(I)Z"⟩
abbrev cX7_interrupted : ByteArray := prog_9_method_46_code
def yX7_interrupted : MethodName := ⟨RX7, "interrupted", "()V"⟩
abbrev cX7_run : ByteArray := prog_9_method_47_code
def yX7_run : MethodName := ⟨RX7, "run", "(I)I"⟩
abbrev cX7_feed : ByteArray := prog_9_method_48_code
def yX7_feed : MethodName := ⟨RX7, "feed", "(IIIII)I"⟩
abbrev cX7_end : ByteArray := prog_9_method_49_code
def yX7_end : MethodName := ⟨RX7, "end", "(I)I"⟩
abbrev cX7_load : ByteArray := prog_9_method_50_code
def yX7_load : MethodName := ⟨RX7, "load", "(II)I"⟩
abbrev cX7_reset : ByteArray := prog_9_method_51_code
def yX7_reset : MethodName := ⟨RX7, "reset", "()V"⟩
abbrev cX7_plainWord : ByteArray := prog_9_method_52_code
def yX7_plainWord : MethodName := ⟨RX7, "plainWord", "(I)I"⟩
abbrev cX7_state : ByteArray := prog_9_method_53_code
def yX7_state : MethodName := ⟨RX7, "state", "(I)I"⟩
abbrev cX7_peek : ByteArray := prog_9_method_54_code
def yX7_peek : MethodName := ⟨RX7, "peek", "(I)I"⟩
abbrev cX7_set : ByteArray := prog_9_method_55_code
def yX7_set : MethodName := ⟨RX7, "set", "(II)Z"⟩
abbrev cX7_picture : ByteArray := prog_9_method_56_code
def yX7_picture : MethodName := ⟨RX7, "picture", "(I)I"⟩
abbrev cX7_vram : ByteArray := prog_9_method_57_code
def yX7_vram : MethodName := ⟨RX7, "vram", "(I)I"⟩
abbrev cX7_grom : ByteArray := prog_9_method_58_code
def yX7_grom : MethodName := ⟨RX7, "grom", "(I)I"⟩
abbrev cX7_frame : ByteArray := prog_9_method_59_code
def yX7_frame : MethodName := ⟨RX7, "frame", "()V"⟩
abbrev cX7_interrupt : ByteArray := prog_9_method_60_code
def yX7_interrupt : MethodName := ⟨RX7, "interrupt", "(I)Z"⟩
abbrev cX7_key : ByteArray := prog_9_method_61_code
def yX7_key : MethodName := ⟨RX7, "key", "(IIZ)Z"⟩
abbrev cX7_out : ByteArray := prog_9_method_62_code
def yX7_out : MethodName := ⟨RX7, "out", "(I)I"⟩
abbrev cX7_in_ : ByteArray := prog_9_method_63_code
def yX7_in_ : MethodName := ⟨RX7, "in", "(I)I"⟩
abbrev cX7_pixel : ByteArray := prog_9_method_64_code
def yX7_pixel : MethodName := ⟨RX7, "pixel", "(II)I"⟩
def RJ6 : String := "java/lang/Integer"
def TJ6 : u_T := fun k => match k with
  | _ => ("", "", "", false)
def tyJ6 : Nat → FieldType := fun k => match k with
  | _ => .int
abbrev wsJ60 : List Cond := u_ws RJ6 TJ6 0
theorem nmJ6 : ∀ a, a < 0 → ∀ b, b < 0 → a ≠ b → (TJ6 a).2.1 ≠ (TJ6 b).2.1 := by decide +kernel
theorem tyJ6_ok : ∀ k, k < 0 → parseFieldDescriptor (TJ6 k).2.2.1 = some (tyJ6 k) := by decide +kernel
abbrev cJ6_bitCount_0f7a4 : ByteArray := prog_12_method_49_code
def yJ6_bitCount_0f7a4 : MethodName := ⟨RJ6, "bitCount", "(I)I"⟩
def RJ0 : String := "java/lang/String"
def TJ0 : u_T := fun k => match k with
  | _ => ("", "", "", false)
def tyJ0 : Nat → FieldType := fun k => match k with
  | _ => .int
abbrev wsJ00 : List Cond := u_ws RJ0 TJ0 0
theorem nmJ0 : ∀ a, a < 0 → ∀ b, b < 0 → a ≠ b → (TJ0 a).2.1 ≠ (TJ0 b).2.1 := by decide +kernel
theorem tyJ0_ok : ∀ k, k < 0 → parseFieldDescriptor (TJ0 k).2.2.1 = some (tyJ0 k) := by decide +kernel
def RL : String := "WorkspaceBoxLaw"
abbrev cL_run : ByteArray := method_3_code
def yL_run : MethodName := ⟨RL, "run", "(LWorkspaceBox;I[J)I"⟩
abbrev cL_vram : ByteArray := method_4_code
def yL_vram : MethodName := ⟨RL, "vram", "(LWorkspaceBox;I[J)I"⟩
abbrev cL_law : ByteArray := code
def yL_law : MethodName := ⟨RL, "law", "([I)Z"⟩
theorem dX0_init_0 : decode cX0_init 0 = .ok (.aload_n 0, 1) := by decide +kernel
theorem dX0_init_1 : decode cX0_init 1 = .ok (.invokespecial 1, 3) := by decide +kernel
theorem dX0_init_4 : decode cX0_init 4 = .ok (.aload_n 0, 1) := by decide +kernel
theorem dX0_init_5 : decode cX0_init 5 = .ok (.iload_n 1, 1) := by decide +kernel
theorem dX0_init_6 : decode cX0_init 6 = .ok (.bipush 8, 2) := by decide +kernel
theorem dX0_init_8 : decode cX0_init 8 = .ok (.if_icmp .ge 7, 3) := by decide +kernel
theorem dX0_init_11 : decode cX0_init 11 = .ok (.iconst 1, 1) := by decide +kernel
theorem dX0_init_12 : decode cX0_init 12 = .ok (.goto 7, 3) := by decide +kernel
theorem dX0_init_15 : decode cX0_init 15 = .ok (.iload_n 1, 1) := by decide +kernel
theorem dX0_init_16 : decode cX0_init 16 = .ok (.bipush 8, 2) := by decide +kernel
theorem dX0_init_18 : decode cX0_init 18 = .ok (.idiv, 1) := by decide +kernel
theorem dX0_init_19 : decode cX0_init 19 = .ok (.newarray .long, 2) := by decide +kernel
theorem dX0_init_21 : decode cX0_init 21 = .ok (.putfield 7, 3) := by decide +kernel
theorem dX0_init_24 : decode cX0_init 24 = .ok (.return_, 1) := by decide +kernel
theorem dX0_get_0 : decode cX0_get 0 = .ok (.iload_n 1, 1) := by decide +kernel
theorem dX0_get_1 : decode cX0_get 1 = .ok (.iconst 3, 1) := by decide +kernel
theorem dX0_get_2 : decode cX0_get 2 = .ok (.ishr, 1) := by decide +kernel
theorem dX0_get_3 : decode cX0_get 3 = .ok (.istore_n 2, 1) := by decide +kernel
theorem dX0_get_4 : decode cX0_get 4 = .ok (.iload_n 2, 1) := by decide +kernel
theorem dX0_get_5 : decode cX0_get 5 = .ok (.ifCond .lt 12, 3) := by decide +kernel
theorem dX0_get_8 : decode cX0_get 8 = .ok (.iload_n 2, 1) := by decide +kernel
theorem dX0_get_9 : decode cX0_get 9 = .ok (.aload_n 0, 1) := by decide +kernel
theorem dX0_get_10 : decode cX0_get 10 = .ok (.getfield 7, 3) := by decide +kernel
theorem dX0_get_13 : decode cX0_get 13 = .ok (.arraylength, 1) := by decide +kernel
theorem dX0_get_14 : decode cX0_get 14 = .ok (.if_icmp .lt 5, 3) := by decide +kernel
theorem dX0_get_17 : decode cX0_get 17 = .ok (.iconst 0, 1) := by decide +kernel
theorem dX0_get_18 : decode cX0_get 18 = .ok (.ireturn, 1) := by decide +kernel
theorem dX0_get_19 : decode cX0_get 19 = .ok (.aload_n 0, 1) := by decide +kernel
theorem dX0_get_20 : decode cX0_get 20 = .ok (.getfield 7, 3) := by decide +kernel
theorem dX0_get_23 : decode cX0_get 23 = .ok (.iload_n 2, 1) := by decide +kernel
theorem dX0_get_24 : decode cX0_get 24 = .ok (.laload, 1) := by decide +kernel
theorem dX0_get_25 : decode cX0_get 25 = .ok (.iload_n 1, 1) := by decide +kernel
theorem dX0_get_26 : decode cX0_get 26 = .ok (.bipush 7, 2) := by decide +kernel
theorem dX0_get_28 : decode cX0_get 28 = .ok (.iand, 1) := by decide +kernel
theorem dX0_get_29 : decode cX0_get 29 = .ok (.iconst 3, 1) := by decide +kernel
theorem dX0_get_30 : decode cX0_get 30 = .ok (.ishl, 1) := by decide +kernel
theorem dX0_get_31 : decode cX0_get 31 = .ok (.lushr, 1) := by decide +kernel
theorem dX0_get_32 : decode cX0_get 32 = .ok (.l2i, 1) := by decide +kernel
theorem dX0_get_33 : decode cX0_get 33 = .ok (.sipush 255, 3) := by decide +kernel
theorem dX0_get_36 : decode cX0_get 36 = .ok (.iand, 1) := by decide +kernel
theorem dX0_get_37 : decode cX0_get 37 = .ok (.ireturn, 1) := by decide +kernel
theorem dX0_put_0 : decode cX0_put 0 = .ok (.iload_n 1, 1) := by decide +kernel
theorem dX0_put_1 : decode cX0_put 1 = .ok (.iconst 3, 1) := by decide +kernel
theorem dX0_put_2 : decode cX0_put 2 = .ok (.ishr, 1) := by decide +kernel
theorem dX0_put_3 : decode cX0_put 3 = .ok (.istore_n 3, 1) := by decide +kernel
theorem dX0_put_4 : decode cX0_put 4 = .ok (.iload_n 3, 1) := by decide +kernel
theorem dX0_put_5 : decode cX0_put 5 = .ok (.ifCond .lt 12, 3) := by decide +kernel
theorem dX0_put_8 : decode cX0_put 8 = .ok (.iload_n 3, 1) := by decide +kernel
theorem dX0_put_9 : decode cX0_put 9 = .ok (.aload_n 0, 1) := by decide +kernel
