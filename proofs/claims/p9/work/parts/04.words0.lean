set_option maxRecDepth 20000 in
theorem wk_0 : (.selects "WorkspaceBox" ⟨"WorkspaceBox", "append", "(I)V"⟩ ⟨"WorkspaceBox", "append", "(I)V"⟩ : Cond) ∈ wq_all := List.mem_of_getElem? (i := 0) (by decide +kernel)
set_option maxRecDepth 20000 in
theorem wk_1 : (.selects "WorkspaceBox" ⟨"WorkspaceBox", "putInArea", "(III)V"⟩ ⟨"WorkspaceBox", "putInArea", "(III)V"⟩ : Cond) ∈ wq_all := List.mem_of_getElem? (i := 1) (by decide +kernel)
set_option maxRecDepth 20000 in
theorem wk_2 : (.selects "WorkspaceBox$Memory" ⟨"WorkspaceBox$Memory", "store", "(II)V"⟩ ⟨"WorkspaceBox$Memory", "store", "(II)V"⟩ : Cond) ∈ wq_all := List.mem_of_getElem? (i := 2) (by decide +kernel)
set_option maxRecDepth 20000 in
theorem wk_4 : (.selects "WorkspaceBox$Processor" ⟨"WorkspaceBox$Processor", "takeInterrupt", "()V"⟩ ⟨"WorkspaceBox$Processor", "takeInterrupt", "()V"⟩ : Cond) ∈ wq_all := List.mem_of_getElem? (i := 4) (by decide +kernel)
set_option maxRecDepth 20000 in
theorem wk_5 : (.selects "WorkspaceBox$Processor" ⟨"WorkspaceBox$Processor", "askedLevel", "()I"⟩ ⟨"WorkspaceBox$Processor", "askedLevel", "()I"⟩ : Cond) ∈ wq_all := List.mem_of_getElem? (i := 5) (by decide +kernel)
set_option maxRecDepth 20000 in
theorem wk_6 : (.selects "WorkspaceBox$Processor" ⟨"WorkspaceBox$Processor", "enter", "(I)V"⟩ ⟨"WorkspaceBox$Processor", "enter", "(I)V"⟩ : Cond) ∈ wq_all := List.mem_of_getElem? (i := 6) (by decide +kernel)
set_option maxRecDepth 20000 in
theorem wk_7 : (.selects "WorkspaceBox$Processor" ⟨"WorkspaceBox$Processor", "registerAddress", "(I)I"⟩ ⟨"WorkspaceBox$Processor", "registerAddress", "(I)I"⟩ : Cond) ∈ wq_all := List.mem_of_getElem? (i := 7) (by decide +kernel)
set_option maxRecDepth 20000 in
theorem wk_8 : (.selects "WorkspaceBox$Processor" ⟨"WorkspaceBox$Processor", "fetchInstruction", "()Z"⟩ ⟨"WorkspaceBox$Processor", "fetchInstruction", "()Z"⟩ : Cond) ∈ wq_all := List.mem_of_getElem? (i := 8) (by decide +kernel)
set_option maxRecDepth 20000 in
theorem wk_9 : (.selects "WorkspaceBox$Processor" ⟨"WorkspaceBox$Processor", "nextWord", "()I"⟩ ⟨"WorkspaceBox$Processor", "nextWord", "()I"⟩ : Cond) ∈ wq_all := List.mem_of_getElem? (i := 9) (by decide +kernel)
set_option maxRecDepth 20000 in
theorem wk_10 : (.selects "WorkspaceBox$Processor" ⟨"WorkspaceBox$Processor", "operandAddress", "(IZ)I"⟩ ⟨"WorkspaceBox$Processor", "operandAddress", "(IZ)I"⟩ : Cond) ∈ wq_all := List.mem_of_getElem? (i := 10) (by decide +kernel)
set_option maxRecDepth 20000 in
theorem wk_11 : (.selects "WorkspaceBox$Processor" ⟨"WorkspaceBox$Processor", "doImmediate", "(I)V"⟩ ⟨"WorkspaceBox$Processor", "doImmediate", "(I)V"⟩ : Cond) ∈ wq_all := List.mem_of_getElem? (i := 11) (by decide +kernel)
set_option maxRecDepth 20000 in
theorem wk_12 : (.selects "WorkspaceBox$Processor" ⟨"WorkspaceBox$Processor", "compare", "(IIZ)V"⟩ ⟨"WorkspaceBox$Processor", "compare", "(IIZ)V"⟩ : Cond) ∈ wq_all := List.mem_of_getElem? (i := 12) (by decide +kernel)
set_option maxRecDepth 20000 in
theorem wk_13 : (.selects "WorkspaceBox$Processor" ⟨"WorkspaceBox$Processor", "flag", "(IZ)V"⟩ ⟨"WorkspaceBox$Processor", "flag", "(IZ)V"⟩ : Cond) ∈ wq_all := List.mem_of_getElem? (i := 13) (by decide +kernel)
set_option maxRecDepth 20000 in
theorem wk_14 : (.selects "WorkspaceBox$Processor" ⟨"WorkspaceBox$Processor", "add", "(IIZ)I"⟩ ⟨"WorkspaceBox$Processor", "add", "(IIZ)I"⟩ : Cond) ∈ wq_all := List.mem_of_getElem? (i := 14) (by decide +kernel)
set_option maxRecDepth 20000 in
theorem wk_15 : (.selects "WorkspaceBox$Processor" ⟨"WorkspaceBox$Processor", "doControl", "(I)V"⟩ ⟨"WorkspaceBox$Processor", "doControl", "(I)V"⟩ : Cond) ∈ wq_all := List.mem_of_getElem? (i := 15) (by decide +kernel)
set_option maxRecDepth 20000 in
theorem wk_16 : (.selects "WorkspaceBox$Processor" ⟨"WorkspaceBox$Processor", "giveBack", "()V"⟩ ⟨"WorkspaceBox$Processor", "giveBack", "()V"⟩ : Cond) ∈ wq_all := List.mem_of_getElem? (i := 16) (by decide +kernel)
set_option maxRecDepth 20000 in
theorem wk_17 : (.selects "WorkspaceBox$Processor" ⟨"WorkspaceBox$Processor", "doOneOperand", "(I)V"⟩ ⟨"WorkspaceBox$Processor", "doOneOperand", "(I)V"⟩ : Cond) ∈ wq_all := List.mem_of_getElem? (i := 17) (by decide +kernel)
set_option maxRecDepth 20000 in
theorem wk_18 : (.selects "WorkspaceBox$Processor" ⟨"WorkspaceBox$Processor", "changed", "(II)I"⟩ ⟨"WorkspaceBox$Processor", "changed", "(II)I"⟩ : Cond) ∈ wq_all := List.mem_of_getElem? (i := 18) (by decide +kernel)
set_option maxRecDepth 20000 in
theorem wk_19 : (.selects "WorkspaceBox$Processor" ⟨"WorkspaceBox$Processor", "subtract", "(IIZ)I"⟩ ⟨"WorkspaceBox$Processor", "subtract", "(IIZ)I"⟩ : Cond) ∈ wq_all := List.mem_of_getElem? (i := 19) (by decide +kernel)
set_option maxRecDepth 20000 in
theorem wk_20 : (.selects "WorkspaceBox$Processor" ⟨"WorkspaceBox$Processor", "inverted", "(I)I"⟩ ⟨"WorkspaceBox$Processor", "inverted", "(I)I"⟩ : Cond) ∈ wq_all := List.mem_of_getElem? (i := 20) (by decide +kernel)
set_option maxRecDepth 20000 in
theorem wk_21 : (.selects "WorkspaceBox$Processor" ⟨"WorkspaceBox$Processor", "sizeOf", "(I)I"⟩ ⟨"WorkspaceBox$Processor", "sizeOf", "(I)I"⟩ : Cond) ∈ wq_all := List.mem_of_getElem? (i := 21) (by decide +kernel)
set_option maxRecDepth 20000 in
theorem wk_22 : (.selects "WorkspaceBox$Processor" ⟨"WorkspaceBox$Processor", "doShift", "(I)V"⟩ ⟨"WorkspaceBox$Processor", "doShift", "(I)V"⟩ : Cond) ∈ wq_all := List.mem_of_getElem? (i := 22) (by decide +kernel)
set_option maxRecDepth 20000 in
theorem wk_23 : (.selects "WorkspaceBox$Processor" ⟨"WorkspaceBox$Processor", "doJump", "(I)V"⟩ ⟨"WorkspaceBox$Processor", "doJump", "(I)V"⟩ : Cond) ∈ wq_all := List.mem_of_getElem? (i := 23) (by decide +kernel)
set_option maxRecDepth 20000 in
theorem wk_24 : (.selects "WorkspaceBox$Processor" ⟨"WorkspaceBox$Processor", "jumps", "(I)Z"⟩ ⟨"WorkspaceBox$Processor", "jumps", "(I)Z"⟩ : Cond) ∈ wq_all := List.mem_of_getElem? (i := 24) (by decide +kernel)
set_option maxRecDepth 20000 in
theorem wk_25 : (.selects "WorkspaceBox$Processor" ⟨"WorkspaceBox$Processor", "doSingleBit", "(I)V"⟩ ⟨"WorkspaceBox$Processor", "doSingleBit", "(I)V"⟩ : Cond) ∈ wq_all := List.mem_of_getElem? (i := 25) (by decide +kernel)
set_option maxRecDepth 20000 in
theorem wk_26 : (.selects "WorkspaceBox$Processor" ⟨"WorkspaceBox$Processor", "baseBit", "()I"⟩ ⟨"WorkspaceBox$Processor", "baseBit", "()I"⟩ : Cond) ∈ wq_all := List.mem_of_getElem? (i := 26) (by decide +kernel)
set_option maxRecDepth 20000 in
theorem wk_27 : (.selects "WorkspaceBox$Processor" ⟨"WorkspaceBox$Processor", "doWithRegister", "(I)V"⟩ ⟨"WorkspaceBox$Processor", "doWithRegister", "(I)V"⟩ : Cond) ∈ wq_all := List.mem_of_getElem? (i := 27) (by decide +kernel)
set_option maxRecDepth 20000 in
theorem wk_28 : (.selects "WorkspaceBox$Processor" ⟨"WorkspaceBox$Processor", "doManyBits", "(I)V"⟩ ⟨"WorkspaceBox$Processor", "doManyBits", "(I)V"⟩ : Cond) ∈ wq_all := List.mem_of_getElem? (i := 28) (by decide +kernel)
set_option maxRecDepth 20000 in
theorem wk_29 : (.selects "WorkspaceBox$Processor" ⟨"WorkspaceBox$Processor", "sendBits", "(III)V"⟩ ⟨"WorkspaceBox$Processor", "sendBits", "(III)V"⟩ : Cond) ∈ wq_all := List.mem_of_getElem? (i := 29) (by decide +kernel)
set_option maxRecDepth 20000 in
theorem wk_30 : (.selects "WorkspaceBox$Processor" ⟨"WorkspaceBox$Processor", "comingBits", "(II)I"⟩ ⟨"WorkspaceBox$Processor", "comingBits", "(II)I"⟩ : Cond) ∈ wq_all := List.mem_of_getElem? (i := 30) (by decide +kernel)
set_option maxRecDepth 20000 in
theorem wk_31 : (.selects "WorkspaceBox$Processor" ⟨"WorkspaceBox$Processor", "parity", "(I)V"⟩ ⟨"WorkspaceBox$Processor", "parity", "(I)V"⟩ : Cond) ∈ wq_all := List.mem_of_getElem? (i := 31) (by decide +kernel)
set_option maxRecDepth 20000 in
theorem wk_32 : (.selects "WorkspaceBox$Processor" ⟨"WorkspaceBox$Processor", "putOperand", "(IIZ)V"⟩ ⟨"WorkspaceBox$Processor", "putOperand", "(IIZ)V"⟩ : Cond) ∈ wq_all := List.mem_of_getElem? (i := 32) (by decide +kernel)
set_option maxRecDepth 20000 in
theorem wk_33 : (.selects "WorkspaceBox$Processor" ⟨"WorkspaceBox$Processor", "doLongArithmetic", "(I)V"⟩ ⟨"WorkspaceBox$Processor", "doLongArithmetic", "(I)V"⟩ : Cond) ∈ wq_all := List.mem_of_getElem? (i := 33) (by decide +kernel)
set_option maxRecDepth 20000 in
theorem wk_34 : (.selects "WorkspaceBox$Processor" ⟨"WorkspaceBox$Processor", "divide", "(III)V"⟩ ⟨"WorkspaceBox$Processor", "divide", "(III)V"⟩ : Cond) ∈ wq_all := List.mem_of_getElem? (i := 34) (by decide +kernel)
set_option maxRecDepth 20000 in
theorem wk_35 : (.selects "WorkspaceBox$Processor" ⟨"WorkspaceBox$Processor", "doTwoOperands", "(I)V"⟩ ⟨"WorkspaceBox$Processor", "doTwoOperands", "(I)V"⟩ : Cond) ∈ wq_all := List.mem_of_getElem? (i := 35) (by decide +kernel)
set_option maxRecDepth 20000 in
theorem wk_36 : (.selects "WorkspaceBox$Processor" ⟨"WorkspaceBox$Processor", "combined", "(IIIZ)I"⟩ ⟨"WorkspaceBox$Processor", "combined", "(IIIZ)I"⟩ : Cond) ∈ wq_all := List.mem_of_getElem? (i := 36) (by decide +kernel)
set_option maxRecDepth 20000 in
theorem wk_37 : (.selects "WorkspaceBoxModel" ⟨"WorkspaceBoxModel", "interrupted", "()V"⟩ ⟨"WorkspaceBoxModel", "interrupted", "()V"⟩ : Cond) ∈ wq_all := List.mem_of_getElem? (i := 37) (by decide +kernel)
set_option maxRecDepth 20000 in
theorem wk_38 : (.selects "WorkspaceBoxModel" ⟨"WorkspaceBoxModel", "isAsked", "(I)Z"⟩ ⟨"WorkspaceBoxModel", "isAsked", "(I)Z"⟩ : Cond) ∈ wq_all := List.mem_of_getElem? (i := 38) (by decide +kernel)
set_option maxRecDepth 20000 in
theorem wk_39 : (.selects "WorkspaceBoxModel" ⟨"WorkspaceBoxModel", "enter", "(I)V"⟩ ⟨"WorkspaceBoxModel", "enter", "(I)V"⟩ : Cond) ∈ wq_all := List.mem_of_getElem? (i := 39) (by decide +kernel)
set_option maxRecDepth 20000 in
theorem wk_40 : (.selects "WorkspaceBoxModel" ⟨"WorkspaceBoxModel", "readWord", "(I)I"⟩ ⟨"WorkspaceBoxModel", "readWord", "(I)I"⟩ : Cond) ∈ wq_all := List.mem_of_getElem? (i := 40) (by decide +kernel)
set_option maxRecDepth 20000 in
theorem wk_41 : (.selects "WorkspaceBoxModel" ⟨"WorkspaceBoxModel", "readByte", "(I)I"⟩ ⟨"WorkspaceBoxModel", "readByte", "(I)I"⟩ : Cond) ∈ wq_all := List.mem_of_getElem? (i := 41) (by decide +kernel)
set_option maxRecDepth 20000 in
theorem wk_42 : (.selects "WorkspaceBoxModel" ⟨"WorkspaceBoxModel", "readPort", "(II)I"⟩ ⟨"WorkspaceBoxModel", "readPort", "(II)I"⟩ : Cond) ∈ wq_all := List.mem_of_getElem? (i := 42) (by decide +kernel)
set_option maxRecDepth 20000 in
theorem wk_43 : (.selects "WorkspaceBoxModel" ⟨"WorkspaceBoxModel", "nextPicture", "()V"⟩ ⟨"WorkspaceBoxModel", "nextPicture", "()V"⟩ : Cond) ∈ wq_all := List.mem_of_getElem? (i := 43) (by decide +kernel)
set_option maxRecDepth 20000 in
theorem wk_44 : (.selects "WorkspaceBoxModel" ⟨"WorkspaceBoxModel", "nextGrom", "()V"⟩ ⟨"WorkspaceBoxModel", "nextGrom", "()V"⟩ : Cond) ∈ wq_all := List.mem_of_getElem? (i := 44) (by decide +kernel)
set_option maxRecDepth 20000 in
theorem wk_45 : (.selects "WorkspaceBoxModel" ⟨"WorkspaceBoxModel", "plain", "(I)I"⟩ ⟨"WorkspaceBoxModel", "plain", "(I)I"⟩ : Cond) ∈ wq_all := List.mem_of_getElem? (i := 45) (by decide +kernel)
set_option maxRecDepth 20000 in
theorem wk_46 : (.selects "WorkspaceBoxModel" ⟨"WorkspaceBoxModel", "register", "(II)V"⟩ ⟨"WorkspaceBoxModel", "register", "(II)V"⟩ : Cond) ∈ wq_all := List.mem_of_getElem? (i := 46) (by decide +kernel)
set_option maxRecDepth 20000 in
theorem wk_47 : (.selects "WorkspaceBoxModel" ⟨"WorkspaceBoxModel", "registerAt", "(I)I"⟩ ⟨"WorkspaceBoxModel", "registerAt", "(I)I"⟩ : Cond) ∈ wq_all := List.mem_of_getElem? (i := 47) (by decide +kernel)
set_option maxRecDepth 20000 in
theorem wk_48 : (.selects "WorkspaceBoxModel" ⟨"WorkspaceBoxModel", "writeWord", "(II)V"⟩ ⟨"WorkspaceBoxModel", "writeWord", "(II)V"⟩ : Cond) ∈ wq_all := List.mem_of_getElem? (i := 48) (by decide +kernel)
set_option maxRecDepth 20000 in
theorem wk_49 : (.selects "WorkspaceBoxModel" ⟨"WorkspaceBoxModel", "writeByte", "(II)V"⟩ ⟨"WorkspaceBoxModel", "writeByte", "(II)V"⟩ : Cond) ∈ wq_all := List.mem_of_getElem? (i := 49) (by decide +kernel)
set_option maxRecDepth 20000 in
theorem wk_50 : (.selects "WorkspaceBoxModel" ⟨"WorkspaceBoxModel", "writePort", "(III)V"⟩ ⟨"WorkspaceBoxModel", "writePort", "(III)V"⟩ : Cond) ∈ wq_all := List.mem_of_getElem? (i := 50) (by decide +kernel)
set_option maxRecDepth 20000 in
theorem wk_51 : (.selects "WorkspaceBoxModel" ⟨"WorkspaceBoxModel", "commands", "(I)V"⟩ ⟨"WorkspaceBoxModel", "commands", "(I)V"⟩ : Cond) ∈ wq_all := List.mem_of_getElem? (i := 51) (by decide +kernel)
set_option maxRecDepth 20000 in
theorem wk_52 : (.selects "WorkspaceBoxModel" ⟨"WorkspaceBoxModel", "nextWord", "()I"⟩ ⟨"WorkspaceBoxModel", "nextWord", "()I"⟩ : Cond) ∈ wq_all := List.mem_of_getElem? (i := 52) (by decide +kernel)
set_option maxRecDepth 20000 in
theorem wk_53 : (.selects "WorkspaceBoxModel" ⟨"WorkspaceBoxModel", "does", "(I)Z"⟩ ⟨"WorkspaceBoxModel", "does", "(I)Z"⟩ : Cond) ∈ wq_all := List.mem_of_getElem? (i := 53) (by decide +kernel)
set_option maxRecDepth 20000 in
theorem wk_54 : (.selects "WorkspaceBoxModel" ⟨"WorkspaceBoxModel", "two", "(I)Z"⟩ ⟨"WorkspaceBoxModel", "two", "(I)Z"⟩ : Cond) ∈ wq_all := List.mem_of_getElem? (i := 54) (by decide +kernel)
set_option maxRecDepth 20000 in
theorem wk_55 : (.selects "WorkspaceBoxModel" ⟨"WorkspaceBoxModel", "operand", "(IZ)I"⟩ ⟨"WorkspaceBoxModel", "operand", "(IZ)I"⟩ : Cond) ∈ wq_all := List.mem_of_getElem? (i := 55) (by decide +kernel)
set_option maxRecDepth 20000 in
theorem wk_56 : (.selects "WorkspaceBoxModel" ⟨"WorkspaceBoxModel", "register", "(I)I"⟩ ⟨"WorkspaceBoxModel", "register", "(I)I"⟩ : Cond) ∈ wq_all := List.mem_of_getElem? (i := 56) (by decide +kernel)
set_option maxRecDepth 20000 in
theorem wk_57 : (.selects "WorkspaceBoxModel" ⟨"WorkspaceBoxModel", "read", "(IZ)I"⟩ ⟨"WorkspaceBoxModel", "read", "(IZ)I"⟩ : Cond) ∈ wq_all := List.mem_of_getElem? (i := 57) (by decide +kernel)
set_option maxRecDepth 20000 in
theorem wk_58 : (.selects "WorkspaceBoxModel" ⟨"WorkspaceBoxModel", "less", "(IIZ)I"⟩ ⟨"WorkspaceBoxModel", "less", "(IIZ)I"⟩ : Cond) ∈ wq_all := List.mem_of_getElem? (i := 58) (by decide +kernel)
set_option maxRecDepth 20000 in
theorem wk_59 : (.selects "WorkspaceBoxModel" ⟨"WorkspaceBoxModel", "compare", "(IIZ)V"⟩ ⟨"WorkspaceBoxModel", "compare", "(IIZ)V"⟩ : Cond) ∈ wq_all := List.mem_of_getElem? (i := 59) (by decide +kernel)
set_option maxRecDepth 20000 in
theorem wk_60 : (.selects "WorkspaceBoxModel" ⟨"WorkspaceBoxModel", "flag", "(IZ)V"⟩ ⟨"WorkspaceBoxModel", "flag", "(IZ)V"⟩ : Cond) ∈ wq_all := List.mem_of_getElem? (i := 60) (by decide +kernel)
set_option maxRecDepth 20000 in
theorem wk_61 : (.selects "WorkspaceBoxModel" ⟨"WorkspaceBoxModel", "plus", "(IIZ)I"⟩ ⟨"WorkspaceBoxModel", "plus", "(IIZ)I"⟩ : Cond) ∈ wq_all := List.mem_of_getElem? (i := 61) (by decide +kernel)
set_option maxRecDepth 20000 in
theorem wk_62 : (.selects "WorkspaceBoxModel" ⟨"WorkspaceBoxModel", "odd", "(I)V"⟩ ⟨"WorkspaceBoxModel", "odd", "(I)V"⟩ : Cond) ∈ wq_all := List.mem_of_getElem? (i := 62) (by decide +kernel)
set_option maxRecDepth 20000 in
theorem wk_63 : (.selects "WorkspaceBoxModel" ⟨"WorkspaceBoxModel", "write", "(IIZ)V"⟩ ⟨"WorkspaceBoxModel", "write", "(IIZ)V"⟩ : Cond) ∈ wq_all := List.mem_of_getElem? (i := 63) (by decide +kernel)
set_option maxRecDepth 20000 in
theorem wk_64 : (.selects "WorkspaceBoxModel" ⟨"WorkspaceBoxModel", "withRegister", "(I)Z"⟩ ⟨"WorkspaceBoxModel", "withRegister", "(I)Z"⟩ : Cond) ∈ wq_all := List.mem_of_getElem? (i := 64) (by decide +kernel)
set_option maxRecDepth 20000 in
theorem wk_65 : (.selects "WorkspaceBoxModel" ⟨"WorkspaceBoxModel", "bits", "(IIZ)V"⟩ ⟨"WorkspaceBoxModel", "bits", "(IIZ)V"⟩ : Cond) ∈ wq_all := List.mem_of_getElem? (i := 65) (by decide +kernel)
set_option maxRecDepth 20000 in
theorem wk_66 : (.selects "WorkspaceBoxModel" ⟨"WorkspaceBoxModel", "base", "()I"⟩ ⟨"WorkspaceBoxModel", "base", "()I"⟩ : Cond) ∈ wq_all := List.mem_of_getElem? (i := 66) (by decide +kernel)
set_option maxRecDepth 20000 in
theorem wk_67 : (.selects "WorkspaceBoxModel" ⟨"WorkspaceBoxModel", "inOf", "(I)I"⟩ ⟨"WorkspaceBoxModel", "inOf", "(I)I"⟩ : Cond) ∈ wq_all := List.mem_of_getElem? (i := 67) (by decide +kernel)
set_option maxRecDepth 20000 in
theorem wk_68 : (.selects "WorkspaceBoxModel" ⟨"WorkspaceBoxModel", "divide", "(III)V"⟩ ⟨"WorkspaceBoxModel", "divide", "(III)V"⟩ : Cond) ∈ wq_all := List.mem_of_getElem? (i := 68) (by decide +kernel)
set_option maxRecDepth 20000 in
theorem wk_69 : (.selects "WorkspaceBoxModel" ⟨"WorkspaceBoxModel", "jump", "(I)V"⟩ ⟨"WorkspaceBoxModel", "jump", "(I)V"⟩ : Cond) ∈ wq_all := List.mem_of_getElem? (i := 69) (by decide +kernel)
set_option maxRecDepth 20000 in
theorem wk_70 : (.selects "WorkspaceBoxModel" ⟨"WorkspaceBoxModel", "jumps", "(I)Z"⟩ ⟨"WorkspaceBoxModel", "jumps", "(I)Z"⟩ : Cond) ∈ wq_all := List.mem_of_getElem? (i := 70) (by decide +kernel)
set_option maxRecDepth 20000 in
theorem wk_71 : (.selects "WorkspaceBoxModel" ⟨"WorkspaceBoxModel", "has", "(I)Z"⟩ ⟨"WorkspaceBoxModel", "has", "(I)Z"⟩ : Cond) ∈ wq_all := List.mem_of_getElem? (i := 71) (by decide +kernel)
set_option maxRecDepth 20000 in
theorem wk_72 : (.selects "WorkspaceBoxModel" ⟨"WorkspaceBoxModel", "shift", "(I)V"⟩ ⟨"WorkspaceBoxModel", "shift", "(I)V"⟩ : Cond) ∈ wq_all := List.mem_of_getElem? (i := 72) (by decide +kernel)
set_option maxRecDepth 20000 in
theorem wk_73 : (.selects "WorkspaceBoxModel" ⟨"WorkspaceBoxModel", "one", "(I)Z"⟩ ⟨"WorkspaceBoxModel", "one", "(I)Z"⟩ : Cond) ∈ wq_all := List.mem_of_getElem? (i := 73) (by decide +kernel)
set_option maxRecDepth 20000 in
theorem wk_74 : (.selects "WorkspaceBoxModel" ⟨"WorkspaceBoxModel", "changes", "(II)V"⟩ ⟨"WorkspaceBoxModel", "changes", "(II)V"⟩ : Cond) ∈ wq_all := List.mem_of_getElem? (i := 74) (by decide +kernel)
set_option maxRecDepth 20000 in
theorem wk_75 : (.selects "WorkspaceBoxModel" ⟨"WorkspaceBoxModel", "told", "(I)Z"⟩ ⟨"WorkspaceBoxModel", "told", "(I)Z"⟩ : Cond) ∈ wq_all := List.mem_of_getElem? (i := 75) (by decide +kernel)
set_option maxRecDepth 20000 in
theorem wk_76 : (.selects "WorkspaceBoxModel" ⟨"WorkspaceBoxModel", "immediate", "(III)V"⟩ ⟨"WorkspaceBoxModel", "immediate", "(III)V"⟩ : Cond) ∈ wq_all := List.mem_of_getElem? (i := 76) (by decide +kernel)
set_option maxRecDepth 20000 in
theorem wk_77 : (.selects "WorkspaceBoxModel" ⟨"WorkspaceBoxModel", "comesBack", "()V"⟩ ⟨"WorkspaceBoxModel", "comesBack", "()V"⟩ : Cond) ∈ wq_all := List.mem_of_getElem? (i := 77) (by decide +kernel)
set_option maxRecDepth 20000 in
theorem wk_78 : (.selects "WorkspaceBoxModel" ⟨"WorkspaceBoxModel", "plainWord", "(I)I"⟩ ⟨"WorkspaceBoxModel", "plainWord", "(I)I"⟩ : Cond) ∈ wq_all := List.mem_of_getElem? (i := 78) (by decide +kernel)
set_option maxRecDepth 20000 in
theorem wk_80 : ((Jvm.Cond.initialized "WorkspaceBox") : Cond) ∈ wq_all := List.mem_of_getElem? (i := 80) (by decide +kernel)
set_option maxRecDepth 20000 in
theorem wk_81 : ((Jvm.Cond.initialized "WorkspaceBox$Bytes") : Cond) ∈ wq_all := List.mem_of_getElem? (i := 81) (by decide +kernel)
set_option maxRecDepth 20000 in
theorem wk_82 : ((Jvm.Cond.initialized "WorkspaceBox$Picture") : Cond) ∈ wq_all := List.mem_of_getElem? (i := 82) (by decide +kernel)
set_option maxRecDepth 20000 in
theorem wk_83 : ((Jvm.Cond.initialized "WorkspaceBox$Grom") : Cond) ∈ wq_all := List.mem_of_getElem? (i := 83) (by decide +kernel)
set_option maxRecDepth 20000 in
theorem wk_84 : ((Jvm.Cond.initialized "WorkspaceBox$Wires") : Cond) ∈ wq_all := List.mem_of_getElem? (i := 84) (by decide +kernel)
set_option maxRecDepth 20000 in
theorem wk_85 : ((Jvm.Cond.initialized "WorkspaceBox$Memory") : Cond) ∈ wq_all := List.mem_of_getElem? (i := 85) (by decide +kernel)
set_option maxRecDepth 20000 in
theorem wk_86 : ((Jvm.Cond.initialized "WorkspaceBox$Processor") : Cond) ∈ wq_all := List.mem_of_getElem? (i := 86) (by decide +kernel)
set_option maxRecDepth 20000 in
theorem wk_87 : ((Jvm.Cond.initialized "WorkspaceBoxModel") : Cond) ∈ wq_all := List.mem_of_getElem? (i := 87) (by decide +kernel)
set_option maxRecDepth 20000 in
theorem wk_92 : ((Jvm.Cond.initialized "java/lang/Integer") : Cond) ∈ wq_all := List.mem_of_getElem? (i := 92) (by decide +kernel)
set_option maxRecDepth 20000 in
theorem wk_108 : ((Jvm.Cond.fieldLink "WorkspaceBox$Bytes" (7 : Nat) "WorkspaceBox$Bytes" "cells" "[J") : Cond) ∈ wq_all := List.mem_of_getElem? (i := 108) (by decide +kernel)
set_option maxRecDepth 20000 in
theorem wk_120 : ((Jvm.Cond.fieldLink "WorkspaceBox$Picture" (14 : Nat) "WorkspaceBox$Picture" "cells" "LWorkspaceBox$Bytes;") : Cond) ∈ wq_all := List.mem_of_getElem? (i := 120) (by decide +kernel)
set_option maxRecDepth 20000 in
theorem wk_121 : ((Jvm.Cond.fieldLink "WorkspaceBox" (88 : Nat) "WorkspaceBox$Picture" "cells" "LWorkspaceBox$Bytes;") : Cond) ∈ wq_all := List.mem_of_getElem? (i := 121) (by decide +kernel)
set_option maxRecDepth 20000 in
theorem wk_122 : ((Jvm.Cond.fieldLink "WorkspaceBox$Picture" (20 : Nat) "WorkspaceBox$Picture" "registers" "[I") : Cond) ∈ wq_all := List.mem_of_getElem? (i := 122) (by decide +kernel)
set_option maxRecDepth 20000 in
theorem wk_123 : ((Jvm.Cond.fieldLink "WorkspaceBox" (148 : Nat) "WorkspaceBox$Picture" "registers" "[I") : Cond) ∈ wq_all := List.mem_of_getElem? (i := 123) (by decide +kernel)
set_option maxRecDepth 20000 in
theorem wk_124 : ((Jvm.Cond.fieldLink "WorkspaceBox$Picture" (31 : Nat) "WorkspaceBox$Picture" "address" "I") : Cond) ∈ wq_all := List.mem_of_getElem? (i := 124) (by decide +kernel)
set_option maxRecDepth 20000 in
theorem wk_125 : ((Jvm.Cond.fieldLink "WorkspaceBox" (135 : Nat) "WorkspaceBox$Picture" "address" "I") : Cond) ∈ wq_all := List.mem_of_getElem? (i := 125) (by decide +kernel)
set_option maxRecDepth 20000 in
theorem wk_126 : ((Jvm.Cond.fieldLink "WorkspaceBox$Picture" (28 : Nat) "WorkspaceBox$Picture" "buffer" "I") : Cond) ∈ wq_all := List.mem_of_getElem? (i := 126) (by decide +kernel)
set_option maxRecDepth 20000 in
theorem wk_127 : ((Jvm.Cond.fieldLink "WorkspaceBox" (138 : Nat) "WorkspaceBox$Picture" "buffer" "I") : Cond) ∈ wq_all := List.mem_of_getElem? (i := 127) (by decide +kernel)
set_option maxRecDepth 20000 in
theorem wk_128 : ((Jvm.Cond.fieldLink "WorkspaceBox$Picture" (24 : Nat) "WorkspaceBox$Picture" "latch" "I") : Cond) ∈ wq_all := List.mem_of_getElem? (i := 128) (by decide +kernel)
set_option maxRecDepth 20000 in
theorem wk_129 : ((Jvm.Cond.fieldLink "WorkspaceBox" (141 : Nat) "WorkspaceBox$Picture" "latch" "I") : Cond) ∈ wq_all := List.mem_of_getElem? (i := 129) (by decide +kernel)
set_option maxRecDepth 20000 in
theorem wk_130 : ((Jvm.Cond.fieldLink "WorkspaceBox$Picture" (38 : Nat) "WorkspaceBox$Picture" "shown" "Z") : Cond) ∈ wq_all := List.mem_of_getElem? (i := 130) (by decide +kernel)
set_option maxRecDepth 20000 in
theorem wk_131 : ((Jvm.Cond.fieldLink "WorkspaceBox$Wires" (19 : Nat) "WorkspaceBox$Picture" "shown" "Z") : Cond) ∈ wq_all := List.mem_of_getElem? (i := 131) (by decide +kernel)
set_option maxRecDepth 20000 in
theorem wk_132 : ((Jvm.Cond.fieldLink "WorkspaceBox" (144 : Nat) "WorkspaceBox$Picture" "shown" "Z") : Cond) ∈ wq_all := List.mem_of_getElem? (i := 132) (by decide +kernel)
set_option maxRecDepth 20000 in
theorem wk_154 : ((Jvm.Cond.fieldLink "WorkspaceBox$Grom" (14 : Nat) "WorkspaceBox$Grom" "cells" "LWorkspaceBox$Bytes;") : Cond) ∈ wq_all := List.mem_of_getElem? (i := 154) (by decide +kernel)
set_option maxRecDepth 20000 in
theorem wk_155 : ((Jvm.Cond.fieldLink "WorkspaceBox" (91 : Nat) "WorkspaceBox$Grom" "cells" "LWorkspaceBox$Bytes;") : Cond) ∈ wq_all := List.mem_of_getElem? (i := 155) (by decide +kernel)
set_option maxRecDepth 20000 in
theorem wk_156 : ((Jvm.Cond.fieldLink "WorkspaceBox$Grom" (24 : Nat) "WorkspaceBox$Grom" "address" "I") : Cond) ∈ wq_all := List.mem_of_getElem? (i := 156) (by decide +kernel)
set_option maxRecDepth 20000 in
theorem wk_157 : ((Jvm.Cond.fieldLink "WorkspaceBox" (157 : Nat) "WorkspaceBox$Grom" "address" "I") : Cond) ∈ wq_all := List.mem_of_getElem? (i := 157) (by decide +kernel)
set_option maxRecDepth 20000 in
theorem wk_158 : ((Jvm.Cond.fieldLink "WorkspaceBox$Grom" (20 : Nat) "WorkspaceBox$Grom" "buffer" "I") : Cond) ∈ wq_all := List.mem_of_getElem? (i := 158) (by decide +kernel)
set_option maxRecDepth 20000 in
theorem wk_159 : ((Jvm.Cond.fieldLink "WorkspaceBox" (158 : Nat) "WorkspaceBox$Grom" "buffer" "I") : Cond) ∈ wq_all := List.mem_of_getElem? (i := 159) (by decide +kernel)
set_option maxRecDepth 20000 in
theorem wk_160 : ((Jvm.Cond.fieldLink "WorkspaceBox$Grom" (32 : Nat) "WorkspaceBox$Grom" "latchFull" "Z") : Cond) ∈ wq_all := List.mem_of_getElem? (i := 160) (by decide +kernel)
set_option maxRecDepth 20000 in
theorem wk_161 : ((Jvm.Cond.fieldLink "WorkspaceBox" (159 : Nat) "WorkspaceBox$Grom" "latchFull" "Z") : Cond) ∈ wq_all := List.mem_of_getElem? (i := 161) (by decide +kernel)
set_option maxRecDepth 20000 in
theorem wk_177 : ((Jvm.Cond.fieldLink "WorkspaceBox$Wires" (13 : Nat) "WorkspaceBox$Wires" "picture" "LWorkspaceBox$Picture;") : Cond) ∈ wq_all := List.mem_of_getElem? (i := 177) (by decide +kernel)
set_option maxRecDepth 20000 in
theorem wk_178 : ((Jvm.Cond.fieldLink "WorkspaceBox$Wires" (7 : Nat) "WorkspaceBox$Wires" "went" "[J") : Cond) ∈ wq_all := List.mem_of_getElem? (i := 178) (by decide +kernel)
set_option maxRecDepth 20000 in
theorem wk_179 : ((Jvm.Cond.fieldLink "WorkspaceBox$Wires" (29 : Nat) "WorkspaceBox$Wires" "keysDown" "J") : Cond) ∈ wq_all := List.mem_of_getElem? (i := 179) (by decide +kernel)
set_option maxRecDepth 20000 in
theorem wk_195 : ((Jvm.Cond.constant "WorkspaceBox$Memory" (20 : Nat) (32768 : Int32)) : Cond) ∈ wq_all := List.mem_of_getElem? (i := 195) (by decide +kernel)
set_option maxRecDepth 20000 in
theorem wk_196 : ((Jvm.Cond.fieldLink "WorkspaceBox$Memory" (14 : Nat) "WorkspaceBox$Memory" "rom" "LWorkspaceBox$Bytes;") : Cond) ∈ wq_all := List.mem_of_getElem? (i := 196) (by decide +kernel)
set_option maxRecDepth 20000 in
theorem wk_197 : ((Jvm.Cond.fieldLink "WorkspaceBox" (82 : Nat) "WorkspaceBox$Memory" "rom" "LWorkspaceBox$Bytes;") : Cond) ∈ wq_all := List.mem_of_getElem? (i := 197) (by decide +kernel)
set_option maxRecDepth 20000 in
theorem wk_198 : ((Jvm.Cond.fieldLink "WorkspaceBox$Memory" (21 : Nat) "WorkspaceBox$Memory" "ram" "LWorkspaceBox$Bytes;") : Cond) ∈ wq_all := List.mem_of_getElem? (i := 198) (by decide +kernel)
set_option maxRecDepth 20000 in
theorem wk_199 : ((Jvm.Cond.fieldLink "WorkspaceBox$Memory" (24 : Nat) "WorkspaceBox$Memory" "pad" "LWorkspaceBox$Bytes;") : Cond) ∈ wq_all := List.mem_of_getElem? (i := 199) (by decide +kernel)
set_option maxRecDepth 20000 in
theorem wk_200 : ((Jvm.Cond.fieldLink "WorkspaceBox$Memory" (27 : Nat) "WorkspaceBox$Memory" "picture" "LWorkspaceBox$Picture;") : Cond) ∈ wq_all := List.mem_of_getElem? (i := 200) (by decide +kernel)
set_option maxRecDepth 20000 in
theorem wk_201 : ((Jvm.Cond.fieldLink "WorkspaceBox$Memory" (31 : Nat) "WorkspaceBox$Memory" "grom" "LWorkspaceBox$Grom;") : Cond) ∈ wq_all := List.mem_of_getElem? (i := 201) (by decide +kernel)
set_option maxRecDepth 20000 in
theorem wk_219 : ((Jvm.Cond.fieldLink "WorkspaceBox$Processor" (13 : Nat) "WorkspaceBox$Processor" "memory" "LWorkspaceBox$Memory;") : Cond) ∈ wq_all := List.mem_of_getElem? (i := 219) (by decide +kernel)
set_option maxRecDepth 20000 in
theorem wk_220 : ((Jvm.Cond.fieldLink "WorkspaceBox$Processor" (17 : Nat) "WorkspaceBox$Processor" "picture" "LWorkspaceBox$Picture;") : Cond) ∈ wq_all := List.mem_of_getElem? (i := 220) (by decide +kernel)
set_option maxRecDepth 20000 in
theorem wk_221 : ((Jvm.Cond.fieldLink "WorkspaceBox$Processor" (21 : Nat) "WorkspaceBox$Processor" "wires" "LWorkspaceBox$Wires;") : Cond) ∈ wq_all := List.mem_of_getElem? (i := 221) (by decide +kernel)
set_option maxRecDepth 20000 in
theorem wk_222 : ((Jvm.Cond.fieldLink "WorkspaceBox$Processor" (35 : Nat) "WorkspaceBox$Processor" "pc" "I") : Cond) ∈ wq_all := List.mem_of_getElem? (i := 222) (by decide +kernel)
set_option maxRecDepth 20000 in
theorem wk_223 : ((Jvm.Cond.fieldLink "WorkspaceBox" (109 : Nat) "WorkspaceBox$Processor" "pc" "I") : Cond) ∈ wq_all := List.mem_of_getElem? (i := 223) (by decide +kernel)
set_option maxRecDepth 20000 in
theorem wk_224 : ((Jvm.Cond.fieldLink "WorkspaceBox$Processor" (32 : Nat) "WorkspaceBox$Processor" "wp" "I") : Cond) ∈ wq_all := List.mem_of_getElem? (i := 224) (by decide +kernel)
set_option maxRecDepth 20000 in
theorem wk_225 : ((Jvm.Cond.fieldLink "WorkspaceBox" (112 : Nat) "WorkspaceBox$Processor" "wp" "I") : Cond) ∈ wq_all := List.mem_of_getElem? (i := 225) (by decide +kernel)
set_option maxRecDepth 20000 in
theorem wk_226 : ((Jvm.Cond.fieldLink "WorkspaceBox$Processor" (38 : Nat) "WorkspaceBox$Processor" "st" "I") : Cond) ∈ wq_all := List.mem_of_getElem? (i := 226) (by decide +kernel)
set_option maxRecDepth 20000 in
theorem wk_227 : ((Jvm.Cond.fieldLink "WorkspaceBox" (115 : Nat) "WorkspaceBox$Processor" "st" "I") : Cond) ∈ wq_all := List.mem_of_getElem? (i := 227) (by decide +kernel)
set_option maxRecDepth 20000 in
theorem wk_228 : ((Jvm.Cond.fieldLink "WorkspaceBox$Processor" (9 : Nat) "WorkspaceBox$Processor" "mode" "I") : Cond) ∈ wq_all := List.mem_of_getElem? (i := 228) (by decide +kernel)
set_option maxRecDepth 20000 in
theorem wk_229 : ((Jvm.Cond.fieldLink "WorkspaceBox" (118 : Nat) "WorkspaceBox$Processor" "mode" "I") : Cond) ∈ wq_all := List.mem_of_getElem? (i := 229) (by decide +kernel)
set_option maxRecDepth 20000 in
theorem wk_230 : ((Jvm.Cond.fieldLink "WorkspaceBox$Processor" (94 : Nat) "WorkspaceBox$Processor" "instructionsDone" "I") : Cond) ∈ wq_all := List.mem_of_getElem? (i := 230) (by decide +kernel)
set_option maxRecDepth 20000 in
theorem wk_231 : ((Jvm.Cond.fieldLink "WorkspaceBox" (121 : Nat) "WorkspaceBox$Processor" "instructionsDone" "I") : Cond) ∈ wq_all := List.mem_of_getElem? (i := 231) (by decide +kernel)
set_option maxRecDepth 20000 in
theorem wk_232 : ((Jvm.Cond.fieldLink "WorkspaceBox$Processor" (63 : Nat) "WorkspaceBox$Processor" "interruptsDone" "I") : Cond) ∈ wq_all := List.mem_of_getElem? (i := 232) (by decide +kernel)
set_option maxRecDepth 20000 in
theorem wk_233 : ((Jvm.Cond.fieldLink "WorkspaceBox" (124 : Nat) "WorkspaceBox$Processor" "interruptsDone" "I") : Cond) ∈ wq_all := List.mem_of_getElem? (i := 233) (by decide +kernel)
set_option maxRecDepth 20000 in
theorem wk_234 : ((Jvm.Cond.fieldLink "WorkspaceBox$Processor" (41 : Nat) "WorkspaceBox$Processor" "told" "I") : Cond) ∈ wq_all := List.mem_of_getElem? (i := 234) (by decide +kernel)
set_option maxRecDepth 20000 in
theorem wk_235 : ((Jvm.Cond.fieldLink "WorkspaceBox" (162 : Nat) "WorkspaceBox$Processor" "told" "I") : Cond) ∈ wq_all := List.mem_of_getElem? (i := 235) (by decide +kernel)
set_option maxRecDepth 20000 in
theorem wk_236 : ((Jvm.Cond.fieldLink "WorkspaceBox$Processor" (79 : Nat) "WorkspaceBox$Processor" "instruction" "I") : Cond) ∈ wq_all := List.mem_of_getElem? (i := 236) (by decide +kernel)
set_option maxRecDepth 20000 in
theorem wk_237 : ((Jvm.Cond.fieldLink "WorkspaceBox$Processor" (44 : Nat) "WorkspaceBox$Processor" "shielded" "Z") : Cond) ∈ wq_all := List.mem_of_getElem? (i := 237) (by decide +kernel)
set_option maxRecDepth 20000 in
theorem wk_263 : ((Jvm.Cond.fieldLink "WorkspaceBox" (14 : Nat) "WorkspaceBox" "tape" "LWorkspaceBox$Bytes;") : Cond) ∈ wq_all := List.mem_of_getElem? (i := 263) (by decide +kernel)
set_option maxRecDepth 20000 in
theorem wk_264 : ((Jvm.Cond.fieldLink "WorkspaceBox" (21 : Nat) "WorkspaceBox" "picture" "LWorkspaceBox$Picture;") : Cond) ∈ wq_all := List.mem_of_getElem? (i := 264) (by decide +kernel)
set_option maxRecDepth 20000 in
theorem wk_265 : ((Jvm.Cond.fieldLink "WorkspaceBox" (28 : Nat) "WorkspaceBox" "grom" "LWorkspaceBox$Grom;") : Cond) ∈ wq_all := List.mem_of_getElem? (i := 265) (by decide +kernel)
set_option maxRecDepth 20000 in
theorem wk_266 : ((Jvm.Cond.fieldLink "WorkspaceBox" (37 : Nat) "WorkspaceBox" "wires" "LWorkspaceBox$Wires;") : Cond) ∈ wq_all := List.mem_of_getElem? (i := 266) (by decide +kernel)
set_option maxRecDepth 20000 in
theorem wk_267 : ((Jvm.Cond.fieldLink "WorkspaceBox" (46 : Nat) "WorkspaceBox" "memory" "LWorkspaceBox$Memory;") : Cond) ∈ wq_all := List.mem_of_getElem? (i := 267) (by decide +kernel)
set_option maxRecDepth 20000 in
theorem wk_268 : ((Jvm.Cond.fieldLink "WorkspaceBox" (55 : Nat) "WorkspaceBox" "processor" "LWorkspaceBox$Processor;") : Cond) ∈ wq_all := List.mem_of_getElem? (i := 268) (by decide +kernel)
set_option maxRecDepth 20000 in
theorem wk_269 : ((Jvm.Cond.fieldLink "WorkspaceBox" (59 : Nat) "WorkspaceBox" "tapeLength" "I") : Cond) ∈ wq_all := List.mem_of_getElem? (i := 269) (by decide +kernel)
set_option maxRecDepth 20000 in
theorem wk_285 : ((Jvm.Cond.methodLink "WorkspaceBoxLaw" (24 : Nat) ({ cls := "WorkspaceBox", name := "feed", desc := "(IIIII)I" } : Jvm.MethodName)) : Cond) ∈ wq_all := List.mem_of_getElem? (i := 285) (by decide +kernel)
set_option maxRecDepth 20000 in
theorem wk_286 : ((Jvm.Cond.instanceMethod ({ cls := "WorkspaceBox", name := "feed", desc := "(IIIII)I" } : Jvm.MethodName)) : Cond) ∈ wq_all := List.mem_of_getElem? (i := 286) (by decide +kernel)
set_option maxRecDepth 20000 in
theorem wk_287 : ((Jvm.Cond.selects "WorkspaceBox" ({ cls := "WorkspaceBox", name := "feed", desc := "(IIIII)I" } : Jvm.MethodName) ({ cls := "WorkspaceBox", name := "feed", desc := "(IIIII)I" } : Jvm.MethodName)) : Cond) ∈ wq_all := List.mem_of_getElem? (i := 287) (by decide +kernel)
set_option maxRecDepth 20000 in
theorem wk_288 : ((Jvm.Cond.code ({ cls := "WorkspaceBox", name := "feed", desc := "(IIIII)I" } : Jvm.MethodName) prog_1_method_2_code (6 : Nat) (Option.some Jvm.ClassFile.FieldType.int)) : Cond) ∈ wq_all := List.mem_of_getElem? (i := 288) (by decide +kernel)
set_option maxRecDepth 20000 in
theorem wk_289 : ((Jvm.Cond.methodLink "WorkspaceBox" (63 : Nat) ({ cls := "WorkspaceBox", name := "append", desc := "(I)V" } : Jvm.MethodName)) : Cond) ∈ wq_all := List.mem_of_getElem? (i := 289) (by decide +kernel)
set_option maxRecDepth 20000 in
theorem wk_290 : ((Jvm.Cond.instanceMethod ({ cls := "WorkspaceBox", name := "append", desc := "(I)V" } : Jvm.MethodName)) : Cond) ∈ wq_all := List.mem_of_getElem? (i := 290) (by decide +kernel)
set_option maxRecDepth 20000 in
theorem wk_291 : ((Jvm.Cond.code ({ cls := "WorkspaceBox", name := "append", desc := "(I)V" } : Jvm.MethodName) prog_1_method_3_code (3 : Nat) (Option.none : Option Jvm.ClassFile.FieldType)) : Cond) ∈ wq_all := List.mem_of_getElem? (i := 291) (by decide +kernel)
set_option maxRecDepth 20000 in
theorem wk_292 : ((Jvm.Cond.methodLink "WorkspaceBox" (66 : Nat) ({ cls := "WorkspaceBox$Bytes", name := "put", desc := "(II)V" } : Jvm.MethodName)) : Cond) ∈ wq_all := List.mem_of_getElem? (i := 292) (by decide +kernel)
set_option maxRecDepth 20000 in
theorem wk_293 : ((Jvm.Cond.instanceMethod ({ cls := "WorkspaceBox$Bytes", name := "put", desc := "(II)V" } : Jvm.MethodName)) : Cond) ∈ wq_all := List.mem_of_getElem? (i := 293) (by decide +kernel)
set_option maxRecDepth 20000 in
theorem wk_294 : ((Jvm.Cond.selects "WorkspaceBox$Bytes" ({ cls := "WorkspaceBox$Bytes", name := "put", desc := "(II)V" } : Jvm.MethodName) ({ cls := "WorkspaceBox$Bytes", name := "put", desc := "(II)V" } : Jvm.MethodName)) : Cond) ∈ wq_all := List.mem_of_getElem? (i := 294) (by decide +kernel)
set_option maxRecDepth 20000 in
theorem wk_295 : ((Jvm.Cond.code ({ cls := "WorkspaceBox$Bytes", name := "put", desc := "(II)V" } : Jvm.MethodName) prog_2_method_3_code (7 : Nat) (Option.none : Option Jvm.ClassFile.FieldType)) : Cond) ∈ wq_all := List.mem_of_getElem? (i := 295) (by decide +kernel)
set_option maxRecDepth 20000 in
theorem wk_296 : ((Jvm.Cond.constantLong "WorkspaceBox$Bytes" (13 : Nat) (255 : Int64)) : Cond) ∈ wq_all := List.mem_of_getElem? (i := 296) (by decide +kernel)
set_option maxRecDepth 20000 in
theorem wk_297 : ((Jvm.Cond.constantLong "WorkspaceBox$Bytes" (15 : Nat) (-1 : Int64)) : Cond) ∈ wq_all := List.mem_of_getElem? (i := 297) (by decide +kernel)
set_option maxRecDepth 20000 in
theorem wk_298 : ((Jvm.Cond.methodLink "WorkspaceBoxLaw" (29 : Nat) ({ cls := "WorkspaceBox", name := "end", desc := "(I)I" } : Jvm.MethodName)) : Cond) ∈ wq_all := List.mem_of_getElem? (i := 298) (by decide +kernel)
set_option maxRecDepth 20000 in
theorem wk_299 : ((Jvm.Cond.instanceMethod ({ cls := "WorkspaceBox", name := "end", desc := "(I)I" } : Jvm.MethodName)) : Cond) ∈ wq_all := List.mem_of_getElem? (i := 299) (by decide +kernel)
set_option maxRecDepth 20000 in
theorem wk_300 : ((Jvm.Cond.selects "WorkspaceBox" ({ cls := "WorkspaceBox", name := "end", desc := "(I)I" } : Jvm.MethodName) ({ cls := "WorkspaceBox", name := "end", desc := "(I)I" } : Jvm.MethodName)) : Cond) ∈ wq_all := List.mem_of_getElem? (i := 300) (by decide +kernel)
set_option maxRecDepth 20000 in
theorem wk_301 : ((Jvm.Cond.code ({ cls := "WorkspaceBox", name := "end", desc := "(I)I" } : Jvm.MethodName) prog_1_method_4_code (2 : Nat) (Option.some Jvm.ClassFile.FieldType.int)) : Cond) ∈ wq_all := List.mem_of_getElem? (i := 301) (by decide +kernel)
set_option maxRecDepth 20000 in
theorem wk_302 : ((Jvm.Cond.methodLink "WorkspaceBoxLaw" (33 : Nat) ({ cls := "WorkspaceBox", name := "load", desc := "(II)I" } : Jvm.MethodName)) : Cond) ∈ wq_all := List.mem_of_getElem? (i := 302) (by decide +kernel)
set_option maxRecDepth 20000 in
theorem wk_303 : ((Jvm.Cond.instanceMethod ({ cls := "WorkspaceBox", name := "load", desc := "(II)I" } : Jvm.MethodName)) : Cond) ∈ wq_all := List.mem_of_getElem? (i := 303) (by decide +kernel)
set_option maxRecDepth 20000 in
theorem wk_304 : ((Jvm.Cond.selects "WorkspaceBox" ({ cls := "WorkspaceBox", name := "load", desc := "(II)I" } : Jvm.MethodName) ({ cls := "WorkspaceBox", name := "load", desc := "(II)I" } : Jvm.MethodName)) : Cond) ∈ wq_all := List.mem_of_getElem? (i := 304) (by decide +kernel)
set_option maxRecDepth 20000 in
theorem wk_305 : ((Jvm.Cond.code ({ cls := "WorkspaceBox", name := "load", desc := "(II)I" } : Jvm.MethodName) prog_1_method_5_code (6 : Nat) (Option.some Jvm.ClassFile.FieldType.int)) : Cond) ∈ wq_all := List.mem_of_getElem? (i := 305) (by decide +kernel)
set_option maxRecDepth 20000 in
theorem wk_306 : ((Jvm.Cond.methodLink "WorkspaceBox" (70 : Nat) ({ cls := "WorkspaceBox", name := "sizeOfArea", desc := "(I)I" } : Jvm.MethodName)) : Cond) ∈ wq_all := List.mem_of_getElem? (i := 306) (by decide +kernel)
set_option maxRecDepth 20000 in
theorem wk_307 : ((Jvm.Cond.static ({ cls := "WorkspaceBox", name := "sizeOfArea", desc := "(I)I" } : Jvm.MethodName)) : Cond) ∈ wq_all := List.mem_of_getElem? (i := 307) (by decide +kernel)
set_option maxRecDepth 20000 in
theorem wk_308 : ((Jvm.Cond.code ({ cls := "WorkspaceBox", name := "sizeOfArea", desc := "(I)I" } : Jvm.MethodName) prog_1_method_6_code (1 : Nat) (Option.some Jvm.ClassFile.FieldType.int)) : Cond) ∈ wq_all := List.mem_of_getElem? (i := 308) (by decide +kernel)
set_option maxRecDepth 20000 in
theorem wk_309 : ((Jvm.Cond.constant "WorkspaceBox" (81 : Nat) (65536 : Int32)) : Cond) ∈ wq_all := List.mem_of_getElem? (i := 309) (by decide +kernel)
set_option maxRecDepth 20000 in
theorem wk_310 : ((Jvm.Cond.methodLink "WorkspaceBox" (74 : Nat) ({ cls := "WorkspaceBox$Bytes", name := "get", desc := "(I)I" } : Jvm.MethodName)) : Cond) ∈ wq_all := List.mem_of_getElem? (i := 310) (by decide +kernel)
set_option maxRecDepth 20000 in
theorem wk_311 : ((Jvm.Cond.instanceMethod ({ cls := "WorkspaceBox$Bytes", name := "get", desc := "(I)I" } : Jvm.MethodName)) : Cond) ∈ wq_all := List.mem_of_getElem? (i := 311) (by decide +kernel)
set_option maxRecDepth 20000 in
theorem wk_312 : ((Jvm.Cond.selects "WorkspaceBox$Bytes" ({ cls := "WorkspaceBox$Bytes", name := "get", desc := "(I)I" } : Jvm.MethodName) ({ cls := "WorkspaceBox$Bytes", name := "get", desc := "(I)I" } : Jvm.MethodName)) : Cond) ∈ wq_all := List.mem_of_getElem? (i := 312) (by decide +kernel)
set_option maxRecDepth 20000 in
theorem wk_313 : ((Jvm.Cond.code ({ cls := "WorkspaceBox$Bytes", name := "get", desc := "(I)I" } : Jvm.MethodName) prog_2_method_2_code (3 : Nat) (Option.some Jvm.ClassFile.FieldType.int)) : Cond) ∈ wq_all := List.mem_of_getElem? (i := 313) (by decide +kernel)
set_option maxRecDepth 20000 in
theorem wk_314 : ((Jvm.Cond.methodLink "WorkspaceBox" (77 : Nat) ({ cls := "WorkspaceBox", name := "putInArea", desc := "(III)V" } : Jvm.MethodName)) : Cond) ∈ wq_all := List.mem_of_getElem? (i := 314) (by decide +kernel)
set_option maxRecDepth 20000 in
theorem wk_315 : ((Jvm.Cond.instanceMethod ({ cls := "WorkspaceBox", name := "putInArea", desc := "(III)V" } : Jvm.MethodName)) : Cond) ∈ wq_all := List.mem_of_getElem? (i := 315) (by decide +kernel)
set_option maxRecDepth 20000 in
theorem wk_316 : ((Jvm.Cond.code ({ cls := "WorkspaceBox", name := "putInArea", desc := "(III)V" } : Jvm.MethodName) prog_1_method_7_code (4 : Nat) (Option.none : Option Jvm.ClassFile.FieldType)) : Cond) ∈ wq_all := List.mem_of_getElem? (i := 316) (by decide +kernel)
set_option maxRecDepth 20000 in
theorem wk_317 : ((Jvm.Cond.methodLink "WorkspaceBox" (85 : Nat) ({ cls := "WorkspaceBox$Memory", name := "putByte", desc := "(II)V" } : Jvm.MethodName)) : Cond) ∈ wq_all := List.mem_of_getElem? (i := 317) (by decide +kernel)
set_option maxRecDepth 20000 in
theorem wk_318 : ((Jvm.Cond.instanceMethod ({ cls := "WorkspaceBox$Memory", name := "putByte", desc := "(II)V" } : Jvm.MethodName)) : Cond) ∈ wq_all := List.mem_of_getElem? (i := 318) (by decide +kernel)
set_option maxRecDepth 20000 in
theorem wk_319 : ((Jvm.Cond.selects "WorkspaceBox$Memory" ({ cls := "WorkspaceBox$Memory", name := "putByte", desc := "(II)V" } : Jvm.MethodName) ({ cls := "WorkspaceBox$Memory", name := "putByte", desc := "(II)V" } : Jvm.MethodName)) : Cond) ∈ wq_all := List.mem_of_getElem? (i := 319) (by decide +kernel)
set_option maxRecDepth 20000 in
theorem wk_320 : ((Jvm.Cond.code ({ cls := "WorkspaceBox$Memory", name := "putByte", desc := "(II)V" } : Jvm.MethodName) prog_4_method_5_code (6 : Nat) (Option.none : Option Jvm.ClassFile.FieldType)) : Cond) ∈ wq_all := List.mem_of_getElem? (i := 320) (by decide +kernel)
set_option maxRecDepth 20000 in
theorem wk_321 : ((Jvm.Cond.constant "WorkspaceBox$Memory" (46 : Nat) (65535 : Int32)) : Cond) ∈ wq_all := List.mem_of_getElem? (i := 321) (by decide +kernel)
set_option maxRecDepth 20000 in
theorem wk_322 : ((Jvm.Cond.constant "WorkspaceBox$Memory" (47 : Nat) (64513 : Int32)) : Cond) ∈ wq_all := List.mem_of_getElem? (i := 322) (by decide +kernel)
set_option maxRecDepth 20000 in
theorem wk_323 : ((Jvm.Cond.methodLink "WorkspaceBox$Memory" (66 : Nat) ({ cls := "WorkspaceBox$Picture", name := "writeControl", desc := "(I)V" } : Jvm.MethodName)) : Cond) ∈ wq_all := List.mem_of_getElem? (i := 323) (by decide +kernel)
set_option maxRecDepth 20000 in
theorem wk_324 : ((Jvm.Cond.instanceMethod ({ cls := "WorkspaceBox$Picture", name := "writeControl", desc := "(I)V" } : Jvm.MethodName)) : Cond) ∈ wq_all := List.mem_of_getElem? (i := 324) (by decide +kernel)
set_option maxRecDepth 20000 in
theorem wk_325 : ((Jvm.Cond.selects "WorkspaceBox$Picture" ({ cls := "WorkspaceBox$Picture", name := "writeControl", desc := "(I)V" } : Jvm.MethodName) ({ cls := "WorkspaceBox$Picture", name := "writeControl", desc := "(I)V" } : Jvm.MethodName)) : Cond) ∈ wq_all := List.mem_of_getElem? (i := 325) (by decide +kernel)
set_option maxRecDepth 20000 in
theorem wk_326 : ((Jvm.Cond.code ({ cls := "WorkspaceBox$Picture", name := "writeControl", desc := "(I)V" } : Jvm.MethodName) prog_5_method_5_code (4 : Nat) (Option.none : Option Jvm.ClassFile.FieldType)) : Cond) ∈ wq_all := List.mem_of_getElem? (i := 326) (by decide +kernel)
set_option maxRecDepth 20000 in
theorem wk_327 : ((Jvm.Cond.methodLink "WorkspaceBox$Picture" (34 : Nat) ({ cls := "WorkspaceBox$Bytes", name := "get", desc := "(I)I" } : Jvm.MethodName)) : Cond) ∈ wq_all := List.mem_of_getElem? (i := 327) (by decide +kernel)
set_option maxRecDepth 20000 in
theorem wk_328 : ((Jvm.Cond.methodLink "WorkspaceBox$Memory" (69 : Nat) ({ cls := "WorkspaceBox$Picture", name := "writeData", desc := "(I)V" } : Jvm.MethodName)) : Cond) ∈ wq_all := List.mem_of_getElem? (i := 328) (by decide +kernel)
set_option maxRecDepth 20000 in
theorem wk_329 : ((Jvm.Cond.instanceMethod ({ cls := "WorkspaceBox$Picture", name := "writeData", desc := "(I)V" } : Jvm.MethodName)) : Cond) ∈ wq_all := List.mem_of_getElem? (i := 329) (by decide +kernel)
set_option maxRecDepth 20000 in
theorem wk_330 : ((Jvm.Cond.selects "WorkspaceBox$Picture" ({ cls := "WorkspaceBox$Picture", name := "writeData", desc := "(I)V" } : Jvm.MethodName) ({ cls := "WorkspaceBox$Picture", name := "writeData", desc := "(I)V" } : Jvm.MethodName)) : Cond) ∈ wq_all := List.mem_of_getElem? (i := 330) (by decide +kernel)
set_option maxRecDepth 20000 in
theorem wk_331 : ((Jvm.Cond.code ({ cls := "WorkspaceBox$Picture", name := "writeData", desc := "(I)V" } : Jvm.MethodName) prog_5_method_4_code (2 : Nat) (Option.none : Option Jvm.ClassFile.FieldType)) : Cond) ∈ wq_all := List.mem_of_getElem? (i := 331) (by decide +kernel)
set_option maxRecDepth 20000 in
theorem wk_332 : ((Jvm.Cond.methodLink "WorkspaceBox$Picture" (42 : Nat) ({ cls := "WorkspaceBox$Bytes", name := "put", desc := "(II)V" } : Jvm.MethodName)) : Cond) ∈ wq_all := List.mem_of_getElem? (i := 332) (by decide +kernel)
set_option maxRecDepth 20000 in
theorem wk_333 : ((Jvm.Cond.methodLink "WorkspaceBox$Memory" (72 : Nat) ({ cls := "WorkspaceBox$Grom", name := "writeAddress", desc := "(I)V" } : Jvm.MethodName)) : Cond) ∈ wq_all := List.mem_of_getElem? (i := 333) (by decide +kernel)
set_option maxRecDepth 20000 in
theorem wk_334 : ((Jvm.Cond.instanceMethod ({ cls := "WorkspaceBox$Grom", name := "writeAddress", desc := "(I)V" } : Jvm.MethodName)) : Cond) ∈ wq_all := List.mem_of_getElem? (i := 334) (by decide +kernel)
set_option maxRecDepth 20000 in
theorem wk_335 : ((Jvm.Cond.selects "WorkspaceBox$Grom" ({ cls := "WorkspaceBox$Grom", name := "writeAddress", desc := "(I)V" } : Jvm.MethodName) ({ cls := "WorkspaceBox$Grom", name := "writeAddress", desc := "(I)V" } : Jvm.MethodName)) : Cond) ∈ wq_all := List.mem_of_getElem? (i := 335) (by decide +kernel)
set_option maxRecDepth 20000 in
theorem wk_336 : ((Jvm.Cond.code ({ cls := "WorkspaceBox$Grom", name := "writeAddress", desc := "(I)V" } : Jvm.MethodName) prog_3_method_4_code (2 : Nat) (Option.none : Option Jvm.ClassFile.FieldType)) : Cond) ∈ wq_all := List.mem_of_getElem? (i := 336) (by decide +kernel)
set_option maxRecDepth 20000 in
theorem wk_337 : ((Jvm.Cond.constant "WorkspaceBox$Grom" (36 : Nat) (65280 : Int32)) : Cond) ∈ wq_all := List.mem_of_getElem? (i := 337) (by decide +kernel)
set_option maxRecDepth 20000 in
theorem wk_338 : ((Jvm.Cond.methodLink "WorkspaceBox$Grom" (27 : Nat) ({ cls := "WorkspaceBox$Bytes", name := "get", desc := "(I)I" } : Jvm.MethodName)) : Cond) ∈ wq_all := List.mem_of_getElem? (i := 338) (by decide +kernel)
set_option maxRecDepth 20000 in
theorem wk_339 : ((Jvm.Cond.constant "WorkspaceBox$Grom" (31 : Nat) (57344 : Int32)) : Cond) ∈ wq_all := List.mem_of_getElem? (i := 339) (by decide +kernel)
set_option maxRecDepth 20000 in
theorem wk_340 : ((Jvm.Cond.methodLink "WorkspaceBox$Memory" (75 : Nat) ({ cls := "WorkspaceBox$Memory", name := "store", desc := "(II)V" } : Jvm.MethodName)) : Cond) ∈ wq_all := List.mem_of_getElem? (i := 340) (by decide +kernel)
set_option maxRecDepth 20000 in
theorem wk_341 : ((Jvm.Cond.instanceMethod ({ cls := "WorkspaceBox$Memory", name := "store", desc := "(II)V" } : Jvm.MethodName)) : Cond) ∈ wq_all := List.mem_of_getElem? (i := 341) (by decide +kernel)
set_option maxRecDepth 20000 in
theorem wk_342 : ((Jvm.Cond.code ({ cls := "WorkspaceBox$Memory", name := "store", desc := "(II)V" } : Jvm.MethodName) prog_4_method_7_code (3 : Nat) (Option.none : Option Jvm.ClassFile.FieldType)) : Cond) ∈ wq_all := List.mem_of_getElem? (i := 342) (by decide +kernel)
set_option maxRecDepth 20000 in
theorem wk_343 : ((Jvm.Cond.methodLink "WorkspaceBox$Memory" (83 : Nat) ({ cls := "WorkspaceBox$Bytes", name := "put", desc := "(II)V" } : Jvm.MethodName)) : Cond) ∈ wq_all := List.mem_of_getElem? (i := 343) (by decide +kernel)
set_option maxRecDepth 20000 in
theorem wk_344 : ((Jvm.Cond.constant "WorkspaceBox$Memory" (81 : Nat) (40960 : Int32)) : Cond) ∈ wq_all := List.mem_of_getElem? (i := 344) (by decide +kernel)
set_option maxRecDepth 20000 in
theorem wk_345 : ((Jvm.Cond.constant "WorkspaceBox$Memory" (82 : Nat) (33792 : Int32)) : Cond) ∈ wq_all := List.mem_of_getElem? (i := 345) (by decide +kernel)
set_option maxRecDepth 20000 in
theorem wk_346 : ((Jvm.Cond.methodLink "WorkspaceBoxLaw" (38 : Nat) ({ cls := "WorkspaceBox", name := "reset", desc := "()V" } : Jvm.MethodName)) : Cond) ∈ wq_all := List.mem_of_getElem? (i := 346) (by decide +kernel)
set_option maxRecDepth 20000 in
theorem wk_347 : ((Jvm.Cond.instanceMethod ({ cls := "WorkspaceBox", name := "reset", desc := "()V" } : Jvm.MethodName)) : Cond) ∈ wq_all := List.mem_of_getElem? (i := 347) (by decide +kernel)
set_option maxRecDepth 20000 in
theorem wk_348 : ((Jvm.Cond.selects "WorkspaceBox" ({ cls := "WorkspaceBox", name := "reset", desc := "()V" } : Jvm.MethodName) ({ cls := "WorkspaceBox", name := "reset", desc := "()V" } : Jvm.MethodName)) : Cond) ∈ wq_all := List.mem_of_getElem? (i := 348) (by decide +kernel)
set_option maxRecDepth 20000 in
theorem wk_349 : ((Jvm.Cond.code ({ cls := "WorkspaceBox", name := "reset", desc := "()V" } : Jvm.MethodName) prog_1_method_8_code (1 : Nat) (Option.none : Option Jvm.ClassFile.FieldType)) : Cond) ∈ wq_all := List.mem_of_getElem? (i := 349) (by decide +kernel)
set_option maxRecDepth 20000 in
theorem wk_350 : ((Jvm.Cond.methodLink "WorkspaceBox" (92 : Nat) ({ cls := "WorkspaceBox$Processor", name := "restart", desc := "()V" } : Jvm.MethodName)) : Cond) ∈ wq_all := List.mem_of_getElem? (i := 350) (by decide +kernel)
set_option maxRecDepth 20000 in
theorem wk_351 : ((Jvm.Cond.instanceMethod ({ cls := "WorkspaceBox$Processor", name := "restart", desc := "()V" } : Jvm.MethodName)) : Cond) ∈ wq_all := List.mem_of_getElem? (i := 351) (by decide +kernel)
set_option maxRecDepth 20000 in
theorem wk_352 : ((Jvm.Cond.selects "WorkspaceBox$Processor" ({ cls := "WorkspaceBox$Processor", name := "restart", desc := "()V" } : Jvm.MethodName) ({ cls := "WorkspaceBox$Processor", name := "restart", desc := "()V" } : Jvm.MethodName)) : Cond) ∈ wq_all := List.mem_of_getElem? (i := 352) (by decide +kernel)
set_option maxRecDepth 20000 in
theorem wk_353 : ((Jvm.Cond.code ({ cls := "WorkspaceBox$Processor", name := "restart", desc := "()V" } : Jvm.MethodName) prog_6_method_2_code (1 : Nat) (Option.none : Option Jvm.ClassFile.FieldType)) : Cond) ∈ wq_all := List.mem_of_getElem? (i := 353) (by decide +kernel)
set_option maxRecDepth 20000 in
theorem wk_354 : ((Jvm.Cond.methodLink "WorkspaceBox$Processor" (25 : Nat) ({ cls := "WorkspaceBox$Memory", name := "wordAt", desc := "(I)I" } : Jvm.MethodName)) : Cond) ∈ wq_all := List.mem_of_getElem? (i := 354) (by decide +kernel)
set_option maxRecDepth 20000 in
theorem wk_355 : ((Jvm.Cond.instanceMethod ({ cls := "WorkspaceBox$Memory", name := "wordAt", desc := "(I)I" } : Jvm.MethodName)) : Cond) ∈ wq_all := List.mem_of_getElem? (i := 355) (by decide +kernel)
set_option maxRecDepth 20000 in
theorem wk_356 : ((Jvm.Cond.selects "WorkspaceBox$Memory" ({ cls := "WorkspaceBox$Memory", name := "wordAt", desc := "(I)I" } : Jvm.MethodName) ({ cls := "WorkspaceBox$Memory", name := "wordAt", desc := "(I)I" } : Jvm.MethodName)) : Cond) ∈ wq_all := List.mem_of_getElem? (i := 356) (by decide +kernel)
set_option maxRecDepth 20000 in
theorem wk_357 : ((Jvm.Cond.code ({ cls := "WorkspaceBox$Memory", name := "wordAt", desc := "(I)I" } : Jvm.MethodName) prog_4_method_2_code (3 : Nat) (Option.some Jvm.ClassFile.FieldType.int)) : Cond) ∈ wq_all := List.mem_of_getElem? (i := 357) (by decide +kernel)
set_option maxRecDepth 20000 in
theorem wk_358 : ((Jvm.Cond.constant "WorkspaceBox$Memory" (37 : Nat) (65534 : Int32)) : Cond) ∈ wq_all := List.mem_of_getElem? (i := 358) (by decide +kernel)
set_option maxRecDepth 20000 in
theorem wk_359 : ((Jvm.Cond.methodLink "WorkspaceBox$Memory" (38 : Nat) ({ cls := "WorkspaceBox$Memory", name := "byteAt", desc := "(I)I" } : Jvm.MethodName)) : Cond) ∈ wq_all := List.mem_of_getElem? (i := 359) (by decide +kernel)
set_option maxRecDepth 20000 in
theorem wk_360 : ((Jvm.Cond.instanceMethod ({ cls := "WorkspaceBox$Memory", name := "byteAt", desc := "(I)I" } : Jvm.MethodName)) : Cond) ∈ wq_all := List.mem_of_getElem? (i := 360) (by decide +kernel)
set_option maxRecDepth 20000 in
theorem wk_361 : ((Jvm.Cond.selects "WorkspaceBox$Memory" ({ cls := "WorkspaceBox$Memory", name := "byteAt", desc := "(I)I" } : Jvm.MethodName) ({ cls := "WorkspaceBox$Memory", name := "byteAt", desc := "(I)I" } : Jvm.MethodName)) : Cond) ∈ wq_all := List.mem_of_getElem? (i := 361) (by decide +kernel)
set_option maxRecDepth 20000 in
theorem wk_362 : ((Jvm.Cond.code ({ cls := "WorkspaceBox$Memory", name := "byteAt", desc := "(I)I" } : Jvm.MethodName) prog_4_method_4_code (4 : Nat) (Option.some Jvm.ClassFile.FieldType.int)) : Cond) ∈ wq_all := List.mem_of_getElem? (i := 362) (by decide +kernel)
set_option maxRecDepth 20000 in
theorem wk_363 : ((Jvm.Cond.methodLink "WorkspaceBox$Memory" (48 : Nat) ({ cls := "WorkspaceBox$Picture", name := "readStatus", desc := "()I" } : Jvm.MethodName)) : Cond) ∈ wq_all := List.mem_of_getElem? (i := 363) (by decide +kernel)
set_option maxRecDepth 20000 in
theorem wk_364 : ((Jvm.Cond.instanceMethod ({ cls := "WorkspaceBox$Picture", name := "readStatus", desc := "()I" } : Jvm.MethodName)) : Cond) ∈ wq_all := List.mem_of_getElem? (i := 364) (by decide +kernel)
set_option maxRecDepth 20000 in
theorem wk_365 : ((Jvm.Cond.selects "WorkspaceBox$Picture" ({ cls := "WorkspaceBox$Picture", name := "readStatus", desc := "()I" } : Jvm.MethodName) ({ cls := "WorkspaceBox$Picture", name := "readStatus", desc := "()I" } : Jvm.MethodName)) : Cond) ∈ wq_all := List.mem_of_getElem? (i := 365) (by decide +kernel)
set_option maxRecDepth 20000 in
theorem wk_366 : ((Jvm.Cond.code ({ cls := "WorkspaceBox$Picture", name := "readStatus", desc := "()I" } : Jvm.MethodName) prog_5_method_3_code (2 : Nat) (Option.some Jvm.ClassFile.FieldType.int)) : Cond) ∈ wq_all := List.mem_of_getElem? (i := 366) (by decide +kernel)
set_option maxRecDepth 20000 in
theorem wk_367 : ((Jvm.Cond.methodLink "WorkspaceBox$Memory" (54 : Nat) ({ cls := "WorkspaceBox$Picture", name := "readData", desc := "()I" } : Jvm.MethodName)) : Cond) ∈ wq_all := List.mem_of_getElem? (i := 367) (by decide +kernel)
set_option maxRecDepth 20000 in
theorem wk_368 : ((Jvm.Cond.instanceMethod ({ cls := "WorkspaceBox$Picture", name := "readData", desc := "()I" } : Jvm.MethodName)) : Cond) ∈ wq_all := List.mem_of_getElem? (i := 368) (by decide +kernel)
set_option maxRecDepth 20000 in
theorem wk_369 : ((Jvm.Cond.selects "WorkspaceBox$Picture" ({ cls := "WorkspaceBox$Picture", name := "readData", desc := "()I" } : Jvm.MethodName) ({ cls := "WorkspaceBox$Picture", name := "readData", desc := "()I" } : Jvm.MethodName)) : Cond) ∈ wq_all := List.mem_of_getElem? (i := 369) (by decide +kernel)
set_option maxRecDepth 20000 in
theorem wk_370 : ((Jvm.Cond.code ({ cls := "WorkspaceBox$Picture", name := "readData", desc := "()I" } : Jvm.MethodName) prog_5_method_2_code (2 : Nat) (Option.some Jvm.ClassFile.FieldType.int)) : Cond) ∈ wq_all := List.mem_of_getElem? (i := 370) (by decide +kernel)
set_option maxRecDepth 20000 in
theorem wk_371 : ((Jvm.Cond.methodLink "WorkspaceBox$Memory" (57 : Nat) ({ cls := "WorkspaceBox$Grom", name := "readAddress", desc := "()I" } : Jvm.MethodName)) : Cond) ∈ wq_all := List.mem_of_getElem? (i := 371) (by decide +kernel)
set_option maxRecDepth 20000 in
theorem wk_372 : ((Jvm.Cond.instanceMethod ({ cls := "WorkspaceBox$Grom", name := "readAddress", desc := "()I" } : Jvm.MethodName)) : Cond) ∈ wq_all := List.mem_of_getElem? (i := 372) (by decide +kernel)
set_option maxRecDepth 20000 in
theorem wk_373 : ((Jvm.Cond.selects "WorkspaceBox$Grom" ({ cls := "WorkspaceBox$Grom", name := "readAddress", desc := "()I" } : Jvm.MethodName) ({ cls := "WorkspaceBox$Grom", name := "readAddress", desc := "()I" } : Jvm.MethodName)) : Cond) ∈ wq_all := List.mem_of_getElem? (i := 373) (by decide +kernel)
set_option maxRecDepth 20000 in
theorem wk_374 : ((Jvm.Cond.code ({ cls := "WorkspaceBox$Grom", name := "readAddress", desc := "()I" } : Jvm.MethodName) prog_3_method_3_code (2 : Nat) (Option.some Jvm.ClassFile.FieldType.int)) : Cond) ∈ wq_all := List.mem_of_getElem? (i := 374) (by decide +kernel)
set_option maxRecDepth 20000 in
theorem wk_375 : ((Jvm.Cond.methodLink "WorkspaceBox$Memory" (62 : Nat) ({ cls := "WorkspaceBox$Grom", name := "readData", desc := "()I" } : Jvm.MethodName)) : Cond) ∈ wq_all := List.mem_of_getElem? (i := 375) (by decide +kernel)
set_option maxRecDepth 20000 in
theorem wk_376 : ((Jvm.Cond.instanceMethod ({ cls := "WorkspaceBox$Grom", name := "readData", desc := "()I" } : Jvm.MethodName)) : Cond) ∈ wq_all := List.mem_of_getElem? (i := 376) (by decide +kernel)
set_option maxRecDepth 20000 in
theorem wk_377 : ((Jvm.Cond.selects "WorkspaceBox$Grom" ({ cls := "WorkspaceBox$Grom", name := "readData", desc := "()I" } : Jvm.MethodName) ({ cls := "WorkspaceBox$Grom", name := "readData", desc := "()I" } : Jvm.MethodName)) : Cond) ∈ wq_all := List.mem_of_getElem? (i := 377) (by decide +kernel)
set_option maxRecDepth 20000 in
theorem wk_378 : ((Jvm.Cond.code ({ cls := "WorkspaceBox$Grom", name := "readData", desc := "()I" } : Jvm.MethodName) prog_3_method_2_code (2 : Nat) (Option.some Jvm.ClassFile.FieldType.int)) : Cond) ∈ wq_all := List.mem_of_getElem? (i := 378) (by decide +kernel)
set_option maxRecDepth 20000 in
theorem wk_379 : ((Jvm.Cond.methodLink "WorkspaceBox$Memory" (63 : Nat) ({ cls := "WorkspaceBox$Memory", name := "storedAt", desc := "(I)I" } : Jvm.MethodName)) : Cond) ∈ wq_all := List.mem_of_getElem? (i := 379) (by decide +kernel)
set_option maxRecDepth 20000 in
theorem wk_380 : ((Jvm.Cond.instanceMethod ({ cls := "WorkspaceBox$Memory", name := "storedAt", desc := "(I)I" } : Jvm.MethodName)) : Cond) ∈ wq_all := List.mem_of_getElem? (i := 380) (by decide +kernel)
set_option maxRecDepth 20000 in
theorem wk_381 : ((Jvm.Cond.selects "WorkspaceBox$Memory" ({ cls := "WorkspaceBox$Memory", name := "storedAt", desc := "(I)I" } : Jvm.MethodName) ({ cls := "WorkspaceBox$Memory", name := "storedAt", desc := "(I)I" } : Jvm.MethodName)) : Cond) ∈ wq_all := List.mem_of_getElem? (i := 381) (by decide +kernel)
set_option maxRecDepth 20000 in
theorem wk_382 : ((Jvm.Cond.code ({ cls := "WorkspaceBox$Memory", name := "storedAt", desc := "(I)I" } : Jvm.MethodName) prog_4_method_6_code (2 : Nat) (Option.some Jvm.ClassFile.FieldType.int)) : Cond) ∈ wq_all := List.mem_of_getElem? (i := 382) (by decide +kernel)
set_option maxRecDepth 20000 in
theorem wk_383 : ((Jvm.Cond.methodLink "WorkspaceBox$Memory" (78 : Nat) ({ cls := "WorkspaceBox$Bytes", name := "get", desc := "(I)I" } : Jvm.MethodName)) : Cond) ∈ wq_all := List.mem_of_getElem? (i := 383) (by decide +kernel)
set_option maxRecDepth 20000 in
theorem wk_384 : ((Jvm.Cond.constant "WorkspaceBox$Processor" (31 : Nat) (65534 : Int32)) : Cond) ∈ wq_all := List.mem_of_getElem? (i := 384) (by decide +kernel)
set_option maxRecDepth 20000 in
theorem wk_385 : ((Jvm.Cond.methodLink "WorkspaceBoxLaw" (48 : Nat) ({ cls := "WorkspaceBox", name := "state", desc := "(I)I" } : Jvm.MethodName)) : Cond) ∈ wq_all := List.mem_of_getElem? (i := 385) (by decide +kernel)
set_option maxRecDepth 20000 in
theorem wk_386 : ((Jvm.Cond.instanceMethod ({ cls := "WorkspaceBox", name := "state", desc := "(I)I" } : Jvm.MethodName)) : Cond) ∈ wq_all := List.mem_of_getElem? (i := 386) (by decide +kernel)
set_option maxRecDepth 20000 in
theorem wk_387 : ((Jvm.Cond.selects "WorkspaceBox" ({ cls := "WorkspaceBox", name := "state", desc := "(I)I" } : Jvm.MethodName) ({ cls := "WorkspaceBox", name := "state", desc := "(I)I" } : Jvm.MethodName)) : Cond) ∈ wq_all := List.mem_of_getElem? (i := 387) (by decide +kernel)
set_option maxRecDepth 20000 in
theorem wk_388 : ((Jvm.Cond.code ({ cls := "WorkspaceBox", name := "state", desc := "(I)I" } : Jvm.MethodName) prog_1_method_10_code (2 : Nat) (Option.some Jvm.ClassFile.FieldType.int)) : Cond) ∈ wq_all := List.mem_of_getElem? (i := 388) (by decide +kernel)
set_option maxRecDepth 20000 in
theorem wk_389 : ((Jvm.Cond.methodLink "WorkspaceBox" (127 : Nat) ({ cls := "WorkspaceBox$Memory", name := "wordAt", desc := "(I)I" } : Jvm.MethodName)) : Cond) ∈ wq_all := List.mem_of_getElem? (i := 389) (by decide +kernel)
set_option maxRecDepth 20000 in
theorem wk_390 : ((Jvm.Cond.methodLink "WorkspaceBoxLaw" (52 : Nat) ({ cls := "WorkspaceBox", name := "peek", desc := "(I)I" } : Jvm.MethodName)) : Cond) ∈ wq_all := List.mem_of_getElem? (i := 390) (by decide +kernel)
set_option maxRecDepth 20000 in
theorem wk_391 : ((Jvm.Cond.instanceMethod ({ cls := "WorkspaceBox", name := "peek", desc := "(I)I" } : Jvm.MethodName)) : Cond) ∈ wq_all := List.mem_of_getElem? (i := 391) (by decide +kernel)
set_option maxRecDepth 20000 in
theorem wk_392 : ((Jvm.Cond.selects "WorkspaceBox" ({ cls := "WorkspaceBox", name := "peek", desc := "(I)I" } : Jvm.MethodName) ({ cls := "WorkspaceBox", name := "peek", desc := "(I)I" } : Jvm.MethodName)) : Cond) ∈ wq_all := List.mem_of_getElem? (i := 392) (by decide +kernel)
set_option maxRecDepth 20000 in
theorem wk_393 : ((Jvm.Cond.code ({ cls := "WorkspaceBox", name := "peek", desc := "(I)I" } : Jvm.MethodName) prog_1_method_11_code (2 : Nat) (Option.some Jvm.ClassFile.FieldType.int)) : Cond) ∈ wq_all := List.mem_of_getElem? (i := 393) (by decide +kernel)
set_option maxRecDepth 20000 in
theorem wk_394 : ((Jvm.Cond.methodLink "WorkspaceBox" (130 : Nat) ({ cls := "WorkspaceBox$Memory", name := "storedAt", desc := "(I)I" } : Jvm.MethodName)) : Cond) ∈ wq_all := List.mem_of_getElem? (i := 394) (by decide +kernel)
set_option maxRecDepth 20000 in
theorem wk_395 : ((Jvm.Cond.methodLink "WorkspaceBoxLaw" (56 : Nat) ({ cls := "WorkspaceBox", name := "set", desc := "(II)Z" } : Jvm.MethodName)) : Cond) ∈ wq_all := List.mem_of_getElem? (i := 395) (by decide +kernel)
set_option maxRecDepth 20000 in
theorem wk_396 : ((Jvm.Cond.instanceMethod ({ cls := "WorkspaceBox", name := "set", desc := "(II)Z" } : Jvm.MethodName)) : Cond) ∈ wq_all := List.mem_of_getElem? (i := 396) (by decide +kernel)
set_option maxRecDepth 20000 in
theorem wk_397 : ((Jvm.Cond.selects "WorkspaceBox" ({ cls := "WorkspaceBox", name := "set", desc := "(II)Z" } : Jvm.MethodName) ({ cls := "WorkspaceBox", name := "set", desc := "(II)Z" } : Jvm.MethodName)) : Cond) ∈ wq_all := List.mem_of_getElem? (i := 397) (by decide +kernel)
set_option maxRecDepth 20000 in
theorem wk_398 : ((Jvm.Cond.code ({ cls := "WorkspaceBox", name := "set", desc := "(II)Z" } : Jvm.MethodName) prog_1_method_12_code (3 : Nat) (Option.some Jvm.ClassFile.FieldType.boolean)) : Cond) ∈ wq_all := List.mem_of_getElem? (i := 398) (by decide +kernel)
set_option maxRecDepth 20000 in
theorem wk_399 : ((Jvm.Cond.constant "WorkspaceBox" (133 : Nat) (65534 : Int32)) : Cond) ∈ wq_all := List.mem_of_getElem? (i := 399) (by decide +kernel)
set_option maxRecDepth 20000 in
theorem wk_400 : ((Jvm.Cond.constant "WorkspaceBox" (134 : Nat) (65039 : Int32)) : Cond) ∈ wq_all := List.mem_of_getElem? (i := 400) (by decide +kernel)
set_option maxRecDepth 20000 in
theorem wk_401 : ((Jvm.Cond.methodLink "WorkspaceBoxLaw" (61 : Nat) ({ cls := "WorkspaceBox", name := "picture", desc := "(I)I" } : Jvm.MethodName)) : Cond) ∈ wq_all := List.mem_of_getElem? (i := 401) (by decide +kernel)
set_option maxRecDepth 20000 in
theorem wk_402 : ((Jvm.Cond.instanceMethod ({ cls := "WorkspaceBox", name := "picture", desc := "(I)I" } : Jvm.MethodName)) : Cond) ∈ wq_all := List.mem_of_getElem? (i := 402) (by decide +kernel)
set_option maxRecDepth 20000 in
theorem wk_403 : ((Jvm.Cond.selects "WorkspaceBox" ({ cls := "WorkspaceBox", name := "picture", desc := "(I)I" } : Jvm.MethodName) ({ cls := "WorkspaceBox", name := "picture", desc := "(I)I" } : Jvm.MethodName)) : Cond) ∈ wq_all := List.mem_of_getElem? (i := 403) (by decide +kernel)
set_option maxRecDepth 20000 in
theorem wk_404 : ((Jvm.Cond.code ({ cls := "WorkspaceBox", name := "picture", desc := "(I)I" } : Jvm.MethodName) prog_1_method_13_code (2 : Nat) (Option.some Jvm.ClassFile.FieldType.int)) : Cond) ∈ wq_all := List.mem_of_getElem? (i := 404) (by decide +kernel)
set_option maxRecDepth 20000 in
theorem wk_405 : ((Jvm.Cond.methodLink "WorkspaceBoxLaw" (68 : Nat) ({ cls := "WorkspaceBox", name := "grom", desc := "(I)I" } : Jvm.MethodName)) : Cond) ∈ wq_all := List.mem_of_getElem? (i := 405) (by decide +kernel)
set_option maxRecDepth 20000 in
theorem wk_406 : ((Jvm.Cond.instanceMethod ({ cls := "WorkspaceBox", name := "grom", desc := "(I)I" } : Jvm.MethodName)) : Cond) ∈ wq_all := List.mem_of_getElem? (i := 406) (by decide +kernel)
set_option maxRecDepth 20000 in
theorem wk_407 : ((Jvm.Cond.selects "WorkspaceBox" ({ cls := "WorkspaceBox", name := "grom", desc := "(I)I" } : Jvm.MethodName) ({ cls := "WorkspaceBox", name := "grom", desc := "(I)I" } : Jvm.MethodName)) : Cond) ∈ wq_all := List.mem_of_getElem? (i := 407) (by decide +kernel)
set_option maxRecDepth 20000 in
theorem wk_408 : ((Jvm.Cond.code ({ cls := "WorkspaceBox", name := "grom", desc := "(I)I" } : Jvm.MethodName) prog_1_method_15_code (2 : Nat) (Option.some Jvm.ClassFile.FieldType.int)) : Cond) ∈ wq_all := List.mem_of_getElem? (i := 408) (by decide +kernel)
set_option maxRecDepth 20000 in
theorem wk_409 : ((Jvm.Cond.methodLink "WorkspaceBoxLaw" (72 : Nat) ({ cls := "WorkspaceBox", name := "frame", desc := "()V" } : Jvm.MethodName)) : Cond) ∈ wq_all := List.mem_of_getElem? (i := 409) (by decide +kernel)
set_option maxRecDepth 20000 in
theorem wk_410 : ((Jvm.Cond.instanceMethod ({ cls := "WorkspaceBox", name := "frame", desc := "()V" } : Jvm.MethodName)) : Cond) ∈ wq_all := List.mem_of_getElem? (i := 410) (by decide +kernel)
set_option maxRecDepth 20000 in
theorem wk_411 : ((Jvm.Cond.selects "WorkspaceBox" ({ cls := "WorkspaceBox", name := "frame", desc := "()V" } : Jvm.MethodName) ({ cls := "WorkspaceBox", name := "frame", desc := "()V" } : Jvm.MethodName)) : Cond) ∈ wq_all := List.mem_of_getElem? (i := 411) (by decide +kernel)
set_option maxRecDepth 20000 in
theorem wk_412 : ((Jvm.Cond.code ({ cls := "WorkspaceBox", name := "frame", desc := "()V" } : Jvm.MethodName) prog_1_method_16_code (1 : Nat) (Option.none : Option Jvm.ClassFile.FieldType)) : Cond) ∈ wq_all := List.mem_of_getElem? (i := 412) (by decide +kernel)
set_option maxRecDepth 20000 in
theorem wk_413 : ((Jvm.Cond.methodLink "WorkspaceBoxLaw" (76 : Nat) ({ cls := "WorkspaceBox", name := "interrupt", desc := "(I)Z" } : Jvm.MethodName)) : Cond) ∈ wq_all := List.mem_of_getElem? (i := 413) (by decide +kernel)
set_option maxRecDepth 20000 in
theorem wk_414 : ((Jvm.Cond.instanceMethod ({ cls := "WorkspaceBox", name := "interrupt", desc := "(I)Z" } : Jvm.MethodName)) : Cond) ∈ wq_all := List.mem_of_getElem? (i := 414) (by decide +kernel)
set_option maxRecDepth 20000 in
theorem wk_415 : ((Jvm.Cond.selects "WorkspaceBox" ({ cls := "WorkspaceBox", name := "interrupt", desc := "(I)Z" } : Jvm.MethodName) ({ cls := "WorkspaceBox", name := "interrupt", desc := "(I)Z" } : Jvm.MethodName)) : Cond) ∈ wq_all := List.mem_of_getElem? (i := 415) (by decide +kernel)
set_option maxRecDepth 20000 in
theorem wk_416 : ((Jvm.Cond.code ({ cls := "WorkspaceBox", name := "interrupt", desc := "(I)Z" } : Jvm.MethodName) prog_1_method_17_code (2 : Nat) (Option.some Jvm.ClassFile.FieldType.boolean)) : Cond) ∈ wq_all := List.mem_of_getElem? (i := 416) (by decide +kernel)
set_option maxRecDepth 20000 in
theorem wk_417 : ((Jvm.Cond.methodLink "WorkspaceBoxLaw" (81 : Nat) ({ cls := "WorkspaceBox", name := "key", desc := "(IIZ)Z" } : Jvm.MethodName)) : Cond) ∈ wq_all := List.mem_of_getElem? (i := 417) (by decide +kernel)
set_option maxRecDepth 20000 in
theorem wk_418 : ((Jvm.Cond.instanceMethod ({ cls := "WorkspaceBox", name := "key", desc := "(IIZ)Z" } : Jvm.MethodName)) : Cond) ∈ wq_all := List.mem_of_getElem? (i := 418) (by decide +kernel)
set_option maxRecDepth 20000 in
theorem wk_419 : ((Jvm.Cond.selects "WorkspaceBox" ({ cls := "WorkspaceBox", name := "key", desc := "(IIZ)Z" } : Jvm.MethodName) ({ cls := "WorkspaceBox", name := "key", desc := "(IIZ)Z" } : Jvm.MethodName)) : Cond) ∈ wq_all := List.mem_of_getElem? (i := 419) (by decide +kernel)
set_option maxRecDepth 20000 in
theorem wk_420 : ((Jvm.Cond.code ({ cls := "WorkspaceBox", name := "key", desc := "(IIZ)Z" } : Jvm.MethodName) prog_1_method_18_code (4 : Nat) (Option.some Jvm.ClassFile.FieldType.boolean)) : Cond) ∈ wq_all := List.mem_of_getElem? (i := 420) (by decide +kernel)
set_option maxRecDepth 20000 in
theorem wk_421 : ((Jvm.Cond.methodLink "WorkspaceBox" (165 : Nat) ({ cls := "WorkspaceBox$Wires", name := "press", desc := "(IIZ)V" } : Jvm.MethodName)) : Cond) ∈ wq_all := List.mem_of_getElem? (i := 421) (by decide +kernel)
set_option maxRecDepth 20000 in
theorem wk_422 : ((Jvm.Cond.instanceMethod ({ cls := "WorkspaceBox$Wires", name := "press", desc := "(IIZ)V" } : Jvm.MethodName)) : Cond) ∈ wq_all := List.mem_of_getElem? (i := 422) (by decide +kernel)
set_option maxRecDepth 20000 in
theorem wk_423 : ((Jvm.Cond.selects "WorkspaceBox$Wires" ({ cls := "WorkspaceBox$Wires", name := "press", desc := "(IIZ)V" } : Jvm.MethodName) ({ cls := "WorkspaceBox$Wires", name := "press", desc := "(IIZ)V" } : Jvm.MethodName)) : Cond) ∈ wq_all := List.mem_of_getElem? (i := 423) (by decide +kernel)
set_option maxRecDepth 20000 in
theorem wk_424 : ((Jvm.Cond.code ({ cls := "WorkspaceBox$Wires", name := "press", desc := "(IIZ)V" } : Jvm.MethodName) prog_7_method_6_code (6 : Nat) (Option.none : Option Jvm.ClassFile.FieldType)) : Cond) ∈ wq_all := List.mem_of_getElem? (i := 424) (by decide +kernel)
set_option maxRecDepth 20000 in
theorem wk_425 : ((Jvm.Cond.constantLong "WorkspaceBox$Wires" (17 : Nat) (-1 : Int64)) : Cond) ∈ wq_all := List.mem_of_getElem? (i := 425) (by decide +kernel)
set_option maxRecDepth 20000 in
theorem wk_426 : ((Jvm.Cond.methodLink "WorkspaceBoxLaw" (86 : Nat) ({ cls := "WorkspaceBox", name := "out", desc := "(I)I" } : Jvm.MethodName)) : Cond) ∈ wq_all := List.mem_of_getElem? (i := 426) (by decide +kernel)
set_option maxRecDepth 20000 in
theorem wk_427 : ((Jvm.Cond.instanceMethod ({ cls := "WorkspaceBox", name := "out", desc := "(I)I" } : Jvm.MethodName)) : Cond) ∈ wq_all := List.mem_of_getElem? (i := 427) (by decide +kernel)
set_option maxRecDepth 20000 in
theorem wk_428 : ((Jvm.Cond.selects "WorkspaceBox" ({ cls := "WorkspaceBox", name := "out", desc := "(I)I" } : Jvm.MethodName) ({ cls := "WorkspaceBox", name := "out", desc := "(I)I" } : Jvm.MethodName)) : Cond) ∈ wq_all := List.mem_of_getElem? (i := 428) (by decide +kernel)
set_option maxRecDepth 20000 in
theorem wk_429 : ((Jvm.Cond.code ({ cls := "WorkspaceBox", name := "out", desc := "(I)I" } : Jvm.MethodName) prog_1_method_19_code (2 : Nat) (Option.some Jvm.ClassFile.FieldType.int)) : Cond) ∈ wq_all := List.mem_of_getElem? (i := 429) (by decide +kernel)
set_option maxRecDepth 20000 in
theorem wk_430 : ((Jvm.Cond.methodLink "WorkspaceBox" (169 : Nat) ({ cls := "WorkspaceBox$Wires", name := "exists", desc := "(I)Z" } : Jvm.MethodName)) : Cond) ∈ wq_all := List.mem_of_getElem? (i := 430) (by decide +kernel)
set_option maxRecDepth 20000 in
theorem wk_431 : ((Jvm.Cond.static ({ cls := "WorkspaceBox$Wires", name := "exists", desc := "(I)Z" } : Jvm.MethodName)) : Cond) ∈ wq_all := List.mem_of_getElem? (i := 431) (by decide +kernel)
set_option maxRecDepth 20000 in
theorem wk_432 : ((Jvm.Cond.code ({ cls := "WorkspaceBox$Wires", name := "exists", desc := "(I)Z" } : Jvm.MethodName) prog_7_method_2_code (1 : Nat) (Option.some Jvm.ClassFile.FieldType.boolean)) : Cond) ∈ wq_all := List.mem_of_getElem? (i := 432) (by decide +kernel)
set_option maxRecDepth 20000 in
theorem wk_433 : ((Jvm.Cond.methodLink "WorkspaceBox" (173 : Nat) ({ cls := "WorkspaceBox$Wires", name := "sent", desc := "(I)I" } : Jvm.MethodName)) : Cond) ∈ wq_all := List.mem_of_getElem? (i := 433) (by decide +kernel)
set_option maxRecDepth 20000 in
theorem wk_434 : ((Jvm.Cond.instanceMethod ({ cls := "WorkspaceBox$Wires", name := "sent", desc := "(I)I" } : Jvm.MethodName)) : Cond) ∈ wq_all := List.mem_of_getElem? (i := 434) (by decide +kernel)
set_option maxRecDepth 20000 in
theorem wk_435 : ((Jvm.Cond.selects "WorkspaceBox$Wires" ({ cls := "WorkspaceBox$Wires", name := "sent", desc := "(I)I" } : Jvm.MethodName) ({ cls := "WorkspaceBox$Wires", name := "sent", desc := "(I)I" } : Jvm.MethodName)) : Cond) ∈ wq_all := List.mem_of_getElem? (i := 435) (by decide +kernel)
set_option maxRecDepth 20000 in
theorem wk_436 : ((Jvm.Cond.code ({ cls := "WorkspaceBox$Wires", name := "sent", desc := "(I)I" } : Jvm.MethodName) prog_7_method_3_code (2 : Nat) (Option.some Jvm.ClassFile.FieldType.int)) : Cond) ∈ wq_all := List.mem_of_getElem? (i := 436) (by decide +kernel)
set_option maxRecDepth 20000 in
theorem wk_437 : ((Jvm.Cond.methodLink "WorkspaceBoxLaw" (90 : Nat) ({ cls := "WorkspaceBox", name := "in", desc := "(I)I" } : Jvm.MethodName)) : Cond) ∈ wq_all := List.mem_of_getElem? (i := 437) (by decide +kernel)
set_option maxRecDepth 20000 in
theorem wk_438 : ((Jvm.Cond.instanceMethod ({ cls := "WorkspaceBox", name := "in", desc := "(I)I" } : Jvm.MethodName)) : Cond) ∈ wq_all := List.mem_of_getElem? (i := 438) (by decide +kernel)
set_option maxRecDepth 20000 in
theorem wk_439 : ((Jvm.Cond.selects "WorkspaceBox" ({ cls := "WorkspaceBox", name := "in", desc := "(I)I" } : Jvm.MethodName) ({ cls := "WorkspaceBox", name := "in", desc := "(I)I" } : Jvm.MethodName)) : Cond) ∈ wq_all := List.mem_of_getElem? (i := 439) (by decide +kernel)
set_option maxRecDepth 20000 in
theorem wk_440 : ((Jvm.Cond.code ({ cls := "WorkspaceBox", name := "in", desc := "(I)I" } : Jvm.MethodName) prog_1_method_20_code (2 : Nat) (Option.some Jvm.ClassFile.FieldType.int)) : Cond) ∈ wq_all := List.mem_of_getElem? (i := 440) (by decide +kernel)
set_option maxRecDepth 20000 in
theorem wk_441 : ((Jvm.Cond.methodLink "WorkspaceBox" (176 : Nat) ({ cls := "WorkspaceBox$Wires", name := "coming", desc := "(I)I" } : Jvm.MethodName)) : Cond) ∈ wq_all := List.mem_of_getElem? (i := 441) (by decide +kernel)
set_option maxRecDepth 20000 in
theorem wk_442 : ((Jvm.Cond.instanceMethod ({ cls := "WorkspaceBox$Wires", name := "coming", desc := "(I)I" } : Jvm.MethodName)) : Cond) ∈ wq_all := List.mem_of_getElem? (i := 442) (by decide +kernel)
set_option maxRecDepth 20000 in
theorem wk_443 : ((Jvm.Cond.selects "WorkspaceBox$Wires" ({ cls := "WorkspaceBox$Wires", name := "coming", desc := "(I)I" } : Jvm.MethodName) ({ cls := "WorkspaceBox$Wires", name := "coming", desc := "(I)I" } : Jvm.MethodName)) : Cond) ∈ wq_all := List.mem_of_getElem? (i := 443) (by decide +kernel)
set_option maxRecDepth 20000 in
theorem wk_444 : ((Jvm.Cond.code ({ cls := "WorkspaceBox$Wires", name := "coming", desc := "(I)I" } : Jvm.MethodName) prog_7_method_5_code (3 : Nat) (Option.some Jvm.ClassFile.FieldType.int)) : Cond) ∈ wq_all := List.mem_of_getElem? (i := 444) (by decide +kernel)
set_option maxRecDepth 20000 in
theorem wk_445 : ((Jvm.Cond.methodLink "WorkspaceBox$Wires" (25 : Nat) ({ cls := "WorkspaceBox$Wires", name := "sent", desc := "(I)I" } : Jvm.MethodName)) : Cond) ∈ wq_all := List.mem_of_getElem? (i := 445) (by decide +kernel)
set_option maxRecDepth 20000 in
theorem wk_446 : ((Jvm.Cond.methodLink "WorkspaceBoxLaw" (94 : Nat) ({ cls := "WorkspaceBox", name := "pixel", desc := "(II)I" } : Jvm.MethodName)) : Cond) ∈ wq_all := List.mem_of_getElem? (i := 446) (by decide +kernel)
set_option maxRecDepth 20000 in
theorem wk_447 : ((Jvm.Cond.instanceMethod ({ cls := "WorkspaceBox", name := "pixel", desc := "(II)I" } : Jvm.MethodName)) : Cond) ∈ wq_all := List.mem_of_getElem? (i := 447) (by decide +kernel)
set_option maxRecDepth 20000 in
theorem wk_448 : ((Jvm.Cond.selects "WorkspaceBox" ({ cls := "WorkspaceBox", name := "pixel", desc := "(II)I" } : Jvm.MethodName) ({ cls := "WorkspaceBox", name := "pixel", desc := "(II)I" } : Jvm.MethodName)) : Cond) ∈ wq_all := List.mem_of_getElem? (i := 448) (by decide +kernel)
set_option maxRecDepth 20000 in
theorem wk_449 : ((Jvm.Cond.code ({ cls := "WorkspaceBox", name := "pixel", desc := "(II)I" } : Jvm.MethodName) prog_1_method_21_code (3 : Nat) (Option.some Jvm.ClassFile.FieldType.int)) : Cond) ∈ wq_all := List.mem_of_getElem? (i := 449) (by decide +kernel)
set_option maxRecDepth 20000 in
theorem wk_450 : ((Jvm.Cond.methodLink "WorkspaceBox" (179 : Nat) ({ cls := "WorkspaceBox$Picture", name := "colourAt", desc := "(II)I" } : Jvm.MethodName)) : Cond) ∈ wq_all := List.mem_of_getElem? (i := 450) (by decide +kernel)
set_option maxRecDepth 20000 in
theorem wk_451 : ((Jvm.Cond.instanceMethod ({ cls := "WorkspaceBox$Picture", name := "colourAt", desc := "(II)I" } : Jvm.MethodName)) : Cond) ∈ wq_all := List.mem_of_getElem? (i := 451) (by decide +kernel)
set_option maxRecDepth 20000 in
theorem wk_452 : ((Jvm.Cond.selects "WorkspaceBox$Picture" ({ cls := "WorkspaceBox$Picture", name := "colourAt", desc := "(II)I" } : Jvm.MethodName) ({ cls := "WorkspaceBox$Picture", name := "colourAt", desc := "(II)I" } : Jvm.MethodName)) : Cond) ∈ wq_all := List.mem_of_getElem? (i := 452) (by decide +kernel)
set_option maxRecDepth 20000 in
theorem wk_453 : ((Jvm.Cond.code ({ cls := "WorkspaceBox$Picture", name := "colourAt", desc := "(II)I" } : Jvm.MethodName) prog_5_method_7_code (9 : Nat) (Option.some Jvm.ClassFile.FieldType.int)) : Cond) ∈ wq_all := List.mem_of_getElem? (i := 453) (by decide +kernel)
set_option maxRecDepth 20000 in
theorem wk_458 : ((Jvm.Cond.methodLink "WorkspaceBoxLaw" (7 : Nat) ({ cls := "WorkspaceBox", name := "run", desc := "(I)I" } : Jvm.MethodName)) : Cond) ∈ wq_all := List.mem_of_getElem? (i := 458) (by decide +kernel)
set_option maxRecDepth 20000 in
theorem wk_459 : ((Jvm.Cond.instanceMethod ({ cls := "WorkspaceBox", name := "run", desc := "(I)I" } : Jvm.MethodName)) : Cond) ∈ wq_all := List.mem_of_getElem? (i := 459) (by decide +kernel)
set_option maxRecDepth 20000 in
theorem wk_460 : ((Jvm.Cond.selects "WorkspaceBox" ({ cls := "WorkspaceBox", name := "run", desc := "(I)I" } : Jvm.MethodName) ({ cls := "WorkspaceBox", name := "run", desc := "(I)I" } : Jvm.MethodName)) : Cond) ∈ wq_all := List.mem_of_getElem? (i := 460) (by decide +kernel)
set_option maxRecDepth 20000 in
theorem wk_461 : ((Jvm.Cond.code ({ cls := "WorkspaceBox", name := "run", desc := "(I)I" } : Jvm.MethodName) prog_1_method_9_code (3 : Nat) (Option.some Jvm.ClassFile.FieldType.int)) : Cond) ∈ wq_all := List.mem_of_getElem? (i := 461) (by decide +kernel)
set_option maxRecDepth 20000 in
theorem wk_517 : ((Jvm.Cond.methodLink "WorkspaceBox" (102 : Nat) ({ cls := "WorkspaceBox$Processor", name := "fetch", desc := "()Z" } : Jvm.MethodName)) : Cond) ∈ wq_all := List.mem_of_getElem? (i := 517) (by decide +kernel)
set_option maxRecDepth 20000 in
theorem wk_518 : ((Jvm.Cond.instanceMethod ({ cls := "WorkspaceBox$Processor", name := "fetch", desc := "()Z" } : Jvm.MethodName)) : Cond) ∈ wq_all := List.mem_of_getElem? (i := 518) (by decide +kernel)
set_option maxRecDepth 20000 in
theorem wk_519 : ((Jvm.Cond.selects "WorkspaceBox$Processor" ({ cls := "WorkspaceBox$Processor", name := "fetch", desc := "()Z" } : Jvm.MethodName) ({ cls := "WorkspaceBox$Processor", name := "fetch", desc := "()Z" } : Jvm.MethodName)) : Cond) ∈ wq_all := List.mem_of_getElem? (i := 519) (by decide +kernel)
set_option maxRecDepth 20000 in
theorem wk_520 : ((Jvm.Cond.code ({ cls := "WorkspaceBox$Processor", name := "fetch", desc := "()Z" } : Jvm.MethodName) prog_6_method_3_code (1 : Nat) (Option.some Jvm.ClassFile.FieldType.boolean)) : Cond) ∈ wq_all := List.mem_of_getElem? (i := 520) (by decide +kernel)
set_option maxRecDepth 20000 in
theorem wk_521 : ((Jvm.Cond.methodLink "WorkspaceBox$Processor" (48 : Nat) ({ cls := "WorkspaceBox$Processor", name := "takeInterrupt", desc := "()V" } : Jvm.MethodName)) : Cond) ∈ wq_all := List.mem_of_getElem? (i := 521) (by decide +kernel)
set_option maxRecDepth 20000 in
theorem wk_522 : ((Jvm.Cond.instanceMethod ({ cls := "WorkspaceBox$Processor", name := "takeInterrupt", desc := "()V" } : Jvm.MethodName)) : Cond) ∈ wq_all := List.mem_of_getElem? (i := 522) (by decide +kernel)
set_option maxRecDepth 20000 in
theorem wk_523 : ((Jvm.Cond.code ({ cls := "WorkspaceBox$Processor", name := "takeInterrupt", desc := "()V" } : Jvm.MethodName) prog_6_method_4_code (2 : Nat) (Option.none : Option Jvm.ClassFile.FieldType)) : Cond) ∈ wq_all := List.mem_of_getElem? (i := 523) (by decide +kernel)
set_option maxRecDepth 20000 in
theorem wk_524 : ((Jvm.Cond.methodLink "WorkspaceBox$Processor" (55 : Nat) ({ cls := "WorkspaceBox$Processor", name := "askedLevel", desc := "()I" } : Jvm.MethodName)) : Cond) ∈ wq_all := List.mem_of_getElem? (i := 524) (by decide +kernel)
set_option maxRecDepth 20000 in
theorem wk_525 : ((Jvm.Cond.instanceMethod ({ cls := "WorkspaceBox$Processor", name := "askedLevel", desc := "()I" } : Jvm.MethodName)) : Cond) ∈ wq_all := List.mem_of_getElem? (i := 525) (by decide +kernel)
set_option maxRecDepth 20000 in
theorem wk_526 : ((Jvm.Cond.code ({ cls := "WorkspaceBox$Processor", name := "askedLevel", desc := "()I" } : Jvm.MethodName) prog_6_method_5_code (2 : Nat) (Option.some Jvm.ClassFile.FieldType.int)) : Cond) ∈ wq_all := List.mem_of_getElem? (i := 526) (by decide +kernel)
set_option maxRecDepth 20000 in
theorem wk_527 : ((Jvm.Cond.methodLink "WorkspaceBox$Processor" (66 : Nat) ({ cls := "WorkspaceBox$Picture", name := "asksForInterrupt", desc := "()Z" } : Jvm.MethodName)) : Cond) ∈ wq_all := List.mem_of_getElem? (i := 527) (by decide +kernel)
set_option maxRecDepth 20000 in
theorem wk_528 : ((Jvm.Cond.instanceMethod ({ cls := "WorkspaceBox$Picture", name := "asksForInterrupt", desc := "()Z" } : Jvm.MethodName)) : Cond) ∈ wq_all := List.mem_of_getElem? (i := 528) (by decide +kernel)
