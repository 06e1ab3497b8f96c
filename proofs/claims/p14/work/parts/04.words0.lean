set_option maxRecDepth 20000 in
theorem wk_0 : (.selects "WorkspaceBox" ⟨"WorkspaceBox", "append", "(I)V"⟩ ⟨"WorkspaceBox", "append", "(I)V"⟩ : Cond) ∈ wq_all := List.mem_of_getElem? (i := 0) (by decide +kernel)
set_option maxRecDepth 20000 in
theorem wk_1 : (.selects "WorkspaceBox" ⟨"WorkspaceBox", "putInArea", "(III)V"⟩ ⟨"WorkspaceBox", "putInArea", "(III)V"⟩ : Cond) ∈ wq_all := List.mem_of_getElem? (i := 1) (by decide +kernel)
set_option maxRecDepth 20000 in
theorem wk_2 : (.selects "WorkspaceBox$Memory" ⟨"WorkspaceBox$Memory", "store", "(II)V"⟩ ⟨"WorkspaceBox$Memory", "store", "(II)V"⟩ : Cond) ∈ wq_all := List.mem_of_getElem? (i := 2) (by decide +kernel)
set_option maxRecDepth 20000 in
theorem wk_3 : (.selects "java/lang/Throwable" ⟨"java/lang/Throwable", "fillInStackTrace", "(I)Ljava/lang/Throwable;"⟩ ⟨"java/lang/Throwable", "fillInStackTrace", "(I)Ljava/lang/Throwable;"⟩ : Cond) ∈ wq_all := List.mem_of_getElem? (i := 3) (by decide +kernel)
set_option maxRecDepth 20000 in
theorem wk_4 : (.selects "WorkspaceBox$Processor" ⟨"WorkspaceBox$Processor", "takeInterrupt", "()V"⟩ ⟨"WorkspaceBox$Processor", "takeInterrupt", "()V"⟩ : Cond) ∈ wq_all := List.mem_of_getElem? (i := 4) (by decide +kernel)
set_option maxRecDepth 20000 in
theorem wk_5 : (.selects "WorkspaceBox$Processor" ⟨"WorkspaceBox$Processor", "askedLevel", "()I"⟩ ⟨"WorkspaceBox$Processor", "askedLevel", "()I"⟩ : Cond) ∈ wq_all := List.mem_of_getElem? (i := 5) (by decide +kernel)
set_option maxRecDepth 20000 in
theorem wk_6 : (.selects "WorkspaceBox$Processor" ⟨"WorkspaceBox$Processor", "enter", "(I)V"⟩ ⟨"WorkspaceBox$Processor", "enter", "(I)V"⟩ : Cond) ∈ wq_all := List.mem_of_getElem? (i := 6) (by decide +kernel)
set_option maxRecDepth 20000 in
theorem wk_7 : (.selects "WorkspaceBox$Processor" ⟨"WorkspaceBox$Processor", "registerAddress", "(I)I"⟩ ⟨"WorkspaceBox$Processor", "registerAddress", "(I)I"⟩ : Cond) ∈ wq_all := List.mem_of_getElem? (i := 7) (by decide +kernel)
set_option maxRecDepth 20000 in
theorem wk_8 : (.selects "WorkspaceBox$Processor" ⟨"WorkspaceBox$Processor", "fetchInstruction", "()Z"⟩ ⟨"WorkspaceBox$Processor", "fetchInstruction", "()Z"⟩ : Cond) ∈ wq_all := List.mem_of_getElem? (i := 8) (by decide +kernel)
set_option maxRecDepth 20000 in
theorem wk_9 : (.selects "WorkspaceBox$Processor" ⟨"WorkspaceBox$Processor", "nextWord", "()I"⟩ ⟨"WorkspaceBox$Processor", "nextWord", "()I"⟩ : Cond) ∈ wq_all := List.mem_of_getElem? (i := 9) (by decide +kernel)
set_option maxRecDepth 20000 in
theorem wk_10 : (.selects "WorkspaceBox$Processor" ⟨"WorkspaceBox$Processor", "operandAddress", "(IZ)I"⟩ ⟨"WorkspaceBox$Processor", "operandAddress", "(IZ)I"⟩ : Cond) ∈ wq_all := List.mem_of_getElem? (i := 10) (by decide +kernel)
set_option maxRecDepth 20000 in
theorem wk_11 : (.selects "WorkspaceBox$Processor" ⟨"WorkspaceBox$Processor", "doImmediate", "(I)V"⟩ ⟨"WorkspaceBox$Processor", "doImmediate", "(I)V"⟩ : Cond) ∈ wq_all := List.mem_of_getElem? (i := 11) (by decide +kernel)
set_option maxRecDepth 20000 in
theorem wk_12 : (.selects "WorkspaceBox$Processor" ⟨"WorkspaceBox$Processor", "compare", "(IIZ)V"⟩ ⟨"WorkspaceBox$Processor", "compare", "(IIZ)V"⟩ : Cond) ∈ wq_all := List.mem_of_getElem? (i := 12) (by decide +kernel)
set_option maxRecDepth 20000 in
theorem wk_13 : (.selects "WorkspaceBox$Processor" ⟨"WorkspaceBox$Processor", "flag", "(IZ)V"⟩ ⟨"WorkspaceBox$Processor", "flag", "(IZ)V"⟩ : Cond) ∈ wq_all := List.mem_of_getElem? (i := 13) (by decide +kernel)
set_option maxRecDepth 20000 in
theorem wk_14 : (.selects "WorkspaceBox$Processor" ⟨"WorkspaceBox$Processor", "add", "(IIZ)I"⟩ ⟨"WorkspaceBox$Processor", "add", "(IIZ)I"⟩ : Cond) ∈ wq_all := List.mem_of_getElem? (i := 14) (by decide +kernel)
set_option maxRecDepth 20000 in
theorem wk_15 : (.selects "WorkspaceBox$Processor" ⟨"WorkspaceBox$Processor", "doControl", "(I)V"⟩ ⟨"WorkspaceBox$Processor", "doControl", "(I)V"⟩ : Cond) ∈ wq_all := List.mem_of_getElem? (i := 15) (by decide +kernel)
set_option maxRecDepth 20000 in
theorem wk_16 : (.selects "WorkspaceBox$Processor" ⟨"WorkspaceBox$Processor", "giveBack", "()V"⟩ ⟨"WorkspaceBox$Processor", "giveBack", "()V"⟩ : Cond) ∈ wq_all := List.mem_of_getElem? (i := 16) (by decide +kernel)
set_option maxRecDepth 20000 in
theorem wk_17 : (.selects "WorkspaceBox$Processor" ⟨"WorkspaceBox$Processor", "doOneOperand", "(I)V"⟩ ⟨"WorkspaceBox$Processor", "doOneOperand", "(I)V"⟩ : Cond) ∈ wq_all := List.mem_of_getElem? (i := 17) (by decide +kernel)
set_option maxRecDepth 20000 in
theorem wk_18 : (.selects "WorkspaceBox$Processor" ⟨"WorkspaceBox$Processor", "changed", "(II)I"⟩ ⟨"WorkspaceBox$Processor", "changed", "(II)I"⟩ : Cond) ∈ wq_all := List.mem_of_getElem? (i := 18) (by decide +kernel)
set_option maxRecDepth 20000 in
theorem wk_19 : (.selects "WorkspaceBox$Processor" ⟨"WorkspaceBox$Processor", "subtract", "(IIZ)I"⟩ ⟨"WorkspaceBox$Processor", "subtract", "(IIZ)I"⟩ : Cond) ∈ wq_all := List.mem_of_getElem? (i := 19) (by decide +kernel)
set_option maxRecDepth 20000 in
theorem wk_20 : (.selects "WorkspaceBox$Processor" ⟨"WorkspaceBox$Processor", "inverted", "(I)I"⟩ ⟨"WorkspaceBox$Processor", "inverted", "(I)I"⟩ : Cond) ∈ wq_all := List.mem_of_getElem? (i := 20) (by decide +kernel)
set_option maxRecDepth 20000 in
theorem wk_21 : (.selects "WorkspaceBox$Processor" ⟨"WorkspaceBox$Processor", "sizeOf", "(I)I"⟩ ⟨"WorkspaceBox$Processor", "sizeOf", "(I)I"⟩ : Cond) ∈ wq_all := List.mem_of_getElem? (i := 21) (by decide +kernel)
set_option maxRecDepth 20000 in
theorem wk_22 : (.selects "WorkspaceBox$Processor" ⟨"WorkspaceBox$Processor", "doShift", "(I)V"⟩ ⟨"WorkspaceBox$Processor", "doShift", "(I)V"⟩ : Cond) ∈ wq_all := List.mem_of_getElem? (i := 22) (by decide +kernel)
set_option maxRecDepth 20000 in
theorem wk_23 : (.selects "WorkspaceBox$Processor" ⟨"WorkspaceBox$Processor", "doJump", "(I)V"⟩ ⟨"WorkspaceBox$Processor", "doJump", "(I)V"⟩ : Cond) ∈ wq_all := List.mem_of_getElem? (i := 23) (by decide +kernel)
set_option maxRecDepth 20000 in
theorem wk_24 : (.selects "WorkspaceBox$Processor" ⟨"WorkspaceBox$Processor", "jumps", "(I)Z"⟩ ⟨"WorkspaceBox$Processor", "jumps", "(I)Z"⟩ : Cond) ∈ wq_all := List.mem_of_getElem? (i := 24) (by decide +kernel)
set_option maxRecDepth 20000 in
theorem wk_25 : (.selects "WorkspaceBox$Processor" ⟨"WorkspaceBox$Processor", "doSingleBit", "(I)V"⟩ ⟨"WorkspaceBox$Processor", "doSingleBit", "(I)V"⟩ : Cond) ∈ wq_all := List.mem_of_getElem? (i := 25) (by decide +kernel)
set_option maxRecDepth 20000 in
theorem wk_26 : (.selects "WorkspaceBox$Processor" ⟨"WorkspaceBox$Processor", "baseBit", "()I"⟩ ⟨"WorkspaceBox$Processor", "baseBit", "()I"⟩ : Cond) ∈ wq_all := List.mem_of_getElem? (i := 26) (by decide +kernel)
set_option maxRecDepth 20000 in
theorem wk_27 : (.selects "WorkspaceBox$Processor" ⟨"WorkspaceBox$Processor", "doWithRegister", "(I)V"⟩ ⟨"WorkspaceBox$Processor", "doWithRegister", "(I)V"⟩ : Cond) ∈ wq_all := List.mem_of_getElem? (i := 27) (by decide +kernel)
set_option maxRecDepth 20000 in
theorem wk_28 : (.selects "WorkspaceBox$Processor" ⟨"WorkspaceBox$Processor", "doManyBits", "(I)V"⟩ ⟨"WorkspaceBox$Processor", "doManyBits", "(I)V"⟩ : Cond) ∈ wq_all := List.mem_of_getElem? (i := 28) (by decide +kernel)
set_option maxRecDepth 20000 in
theorem wk_29 : (.selects "WorkspaceBox$Processor" ⟨"WorkspaceBox$Processor", "sendBits", "(III)V"⟩ ⟨"WorkspaceBox$Processor", "sendBits", "(III)V"⟩ : Cond) ∈ wq_all := List.mem_of_getElem? (i := 29) (by decide +kernel)
set_option maxRecDepth 20000 in
theorem wk_30 : (.selects "WorkspaceBox$Processor" ⟨"WorkspaceBox$Processor", "comingBits", "(II)I"⟩ ⟨"WorkspaceBox$Processor", "comingBits", "(II)I"⟩ : Cond) ∈ wq_all := List.mem_of_getElem? (i := 30) (by decide +kernel)
set_option maxRecDepth 20000 in
theorem wk_31 : (.selects "WorkspaceBox$Processor" ⟨"WorkspaceBox$Processor", "parity", "(I)V"⟩ ⟨"WorkspaceBox$Processor", "parity", "(I)V"⟩ : Cond) ∈ wq_all := List.mem_of_getElem? (i := 31) (by decide +kernel)
set_option maxRecDepth 20000 in
theorem wk_32 : (.selects "WorkspaceBox$Processor" ⟨"WorkspaceBox$Processor", "putOperand", "(IIZ)V"⟩ ⟨"WorkspaceBox$Processor", "putOperand", "(IIZ)V"⟩ : Cond) ∈ wq_all := List.mem_of_getElem? (i := 32) (by decide +kernel)
set_option maxRecDepth 20000 in
theorem wk_33 : (.selects "WorkspaceBox$Processor" ⟨"WorkspaceBox$Processor", "doLongArithmetic", "(I)V"⟩ ⟨"WorkspaceBox$Processor", "doLongArithmetic", "(I)V"⟩ : Cond) ∈ wq_all := List.mem_of_getElem? (i := 33) (by decide +kernel)
set_option maxRecDepth 20000 in
theorem wk_34 : (.selects "WorkspaceBox$Processor" ⟨"WorkspaceBox$Processor", "divide", "(III)V"⟩ ⟨"WorkspaceBox$Processor", "divide", "(III)V"⟩ : Cond) ∈ wq_all := List.mem_of_getElem? (i := 34) (by decide +kernel)
set_option maxRecDepth 20000 in
theorem wk_35 : (.selects "WorkspaceBox$Processor" ⟨"WorkspaceBox$Processor", "doTwoOperands", "(I)V"⟩ ⟨"WorkspaceBox$Processor", "doTwoOperands", "(I)V"⟩ : Cond) ∈ wq_all := List.mem_of_getElem? (i := 35) (by decide +kernel)
set_option maxRecDepth 20000 in
theorem wk_36 : (.selects "WorkspaceBox$Processor" ⟨"WorkspaceBox$Processor", "combined", "(IIIZ)I"⟩ ⟨"WorkspaceBox$Processor", "combined", "(IIIZ)I"⟩ : Cond) ∈ wq_all := List.mem_of_getElem? (i := 36) (by decide +kernel)
set_option maxRecDepth 20000 in
theorem wk_37 : (.selects "WorkspaceBoxModel" ⟨"WorkspaceBoxModel", "interrupted", "()V"⟩ ⟨"WorkspaceBoxModel", "interrupted", "()V"⟩ : Cond) ∈ wq_all := List.mem_of_getElem? (i := 37) (by decide +kernel)
set_option maxRecDepth 20000 in
theorem wk_38 : (.selects "WorkspaceBoxModel" ⟨"WorkspaceBoxModel", "isAsked", "(I)Z"⟩ ⟨"WorkspaceBoxModel", "isAsked", "(I)Z"⟩ : Cond) ∈ wq_all := List.mem_of_getElem? (i := 38) (by decide +kernel)
set_option maxRecDepth 20000 in
theorem wk_39 : (.selects "WorkspaceBoxModel" ⟨"WorkspaceBoxModel", "enter", "(I)V"⟩ ⟨"WorkspaceBoxModel", "enter", "(I)V"⟩ : Cond) ∈ wq_all := List.mem_of_getElem? (i := 39) (by decide +kernel)
set_option maxRecDepth 20000 in
theorem wk_40 : (.selects "WorkspaceBoxModel" ⟨"WorkspaceBoxModel", "readWord", "(I)I"⟩ ⟨"WorkspaceBoxModel", "readWord", "(I)I"⟩ : Cond) ∈ wq_all := List.mem_of_getElem? (i := 40) (by decide +kernel)
set_option maxRecDepth 20000 in
theorem wk_41 : (.selects "WorkspaceBoxModel" ⟨"WorkspaceBoxModel", "readByte", "(I)I"⟩ ⟨"WorkspaceBoxModel", "readByte", "(I)I"⟩ : Cond) ∈ wq_all := List.mem_of_getElem? (i := 41) (by decide +kernel)
set_option maxRecDepth 20000 in
theorem wk_42 : (.selects "WorkspaceBoxModel" ⟨"WorkspaceBoxModel", "readPort", "(II)I"⟩ ⟨"WorkspaceBoxModel", "readPort", "(II)I"⟩ : Cond) ∈ wq_all := List.mem_of_getElem? (i := 42) (by decide +kernel)
set_option maxRecDepth 20000 in
theorem wk_43 : (.selects "WorkspaceBoxModel" ⟨"WorkspaceBoxModel", "nextPicture", "()V"⟩ ⟨"WorkspaceBoxModel", "nextPicture", "()V"⟩ : Cond) ∈ wq_all := List.mem_of_getElem? (i := 43) (by decide +kernel)
set_option maxRecDepth 20000 in
theorem wk_44 : (.selects "WorkspaceBoxModel" ⟨"WorkspaceBoxModel", "nextGrom", "()V"⟩ ⟨"WorkspaceBoxModel", "nextGrom", "()V"⟩ : Cond) ∈ wq_all := List.mem_of_getElem? (i := 44) (by decide +kernel)
set_option maxRecDepth 20000 in
theorem wk_45 : (.selects "WorkspaceBoxModel" ⟨"WorkspaceBoxModel", "plain", "(I)I"⟩ ⟨"WorkspaceBoxModel", "plain", "(I)I"⟩ : Cond) ∈ wq_all := List.mem_of_getElem? (i := 45) (by decide +kernel)
set_option maxRecDepth 20000 in
theorem wk_46 : (.selects "WorkspaceBoxModel" ⟨"WorkspaceBoxModel", "register", "(II)V"⟩ ⟨"WorkspaceBoxModel", "register", "(II)V"⟩ : Cond) ∈ wq_all := List.mem_of_getElem? (i := 46) (by decide +kernel)
set_option maxRecDepth 20000 in
theorem wk_47 : (.selects "WorkspaceBoxModel" ⟨"WorkspaceBoxModel", "registerAt", "(I)I"⟩ ⟨"WorkspaceBoxModel", "registerAt", "(I)I"⟩ : Cond) ∈ wq_all := List.mem_of_getElem? (i := 47) (by decide +kernel)
set_option maxRecDepth 20000 in
theorem wk_48 : (.selects "WorkspaceBoxModel" ⟨"WorkspaceBoxModel", "writeWord", "(II)V"⟩ ⟨"WorkspaceBoxModel", "writeWord", "(II)V"⟩ : Cond) ∈ wq_all := List.mem_of_getElem? (i := 48) (by decide +kernel)
set_option maxRecDepth 20000 in
theorem wk_49 : (.selects "WorkspaceBoxModel" ⟨"WorkspaceBoxModel", "writeByte", "(II)V"⟩ ⟨"WorkspaceBoxModel", "writeByte", "(II)V"⟩ : Cond) ∈ wq_all := List.mem_of_getElem? (i := 49) (by decide +kernel)
set_option maxRecDepth 20000 in
theorem wk_50 : (.selects "WorkspaceBoxModel" ⟨"WorkspaceBoxModel", "writePort", "(III)V"⟩ ⟨"WorkspaceBoxModel", "writePort", "(III)V"⟩ : Cond) ∈ wq_all := List.mem_of_getElem? (i := 50) (by decide +kernel)
set_option maxRecDepth 20000 in
theorem wk_51 : (.selects "WorkspaceBoxModel" ⟨"WorkspaceBoxModel", "commands", "(I)V"⟩ ⟨"WorkspaceBoxModel", "commands", "(I)V"⟩ : Cond) ∈ wq_all := List.mem_of_getElem? (i := 51) (by decide +kernel)
set_option maxRecDepth 20000 in
theorem wk_52 : (.selects "WorkspaceBoxModel" ⟨"WorkspaceBoxModel", "nextWord", "()I"⟩ ⟨"WorkspaceBoxModel", "nextWord", "()I"⟩ : Cond) ∈ wq_all := List.mem_of_getElem? (i := 52) (by decide +kernel)
set_option maxRecDepth 20000 in
theorem wk_53 : (.selects "WorkspaceBoxModel" ⟨"WorkspaceBoxModel", "does", "(I)Z"⟩ ⟨"WorkspaceBoxModel", "does", "(I)Z"⟩ : Cond) ∈ wq_all := List.mem_of_getElem? (i := 53) (by decide +kernel)
set_option maxRecDepth 20000 in
theorem wk_54 : (.selects "WorkspaceBoxModel" ⟨"WorkspaceBoxModel", "two", "(I)Z"⟩ ⟨"WorkspaceBoxModel", "two", "(I)Z"⟩ : Cond) ∈ wq_all := List.mem_of_getElem? (i := 54) (by decide +kernel)
set_option maxRecDepth 20000 in
theorem wk_55 : (.selects "WorkspaceBoxModel" ⟨"WorkspaceBoxModel", "operand", "(IZ)I"⟩ ⟨"WorkspaceBoxModel", "operand", "(IZ)I"⟩ : Cond) ∈ wq_all := List.mem_of_getElem? (i := 55) (by decide +kernel)
set_option maxRecDepth 20000 in
theorem wk_56 : (.selects "WorkspaceBoxModel" ⟨"WorkspaceBoxModel", "register", "(I)I"⟩ ⟨"WorkspaceBoxModel", "register", "(I)I"⟩ : Cond) ∈ wq_all := List.mem_of_getElem? (i := 56) (by decide +kernel)
set_option maxRecDepth 20000 in
theorem wk_57 : (.selects "WorkspaceBoxModel" ⟨"WorkspaceBoxModel", "read", "(IZ)I"⟩ ⟨"WorkspaceBoxModel", "read", "(IZ)I"⟩ : Cond) ∈ wq_all := List.mem_of_getElem? (i := 57) (by decide +kernel)
set_option maxRecDepth 20000 in
theorem wk_58 : (.selects "WorkspaceBoxModel" ⟨"WorkspaceBoxModel", "less", "(IIZ)I"⟩ ⟨"WorkspaceBoxModel", "less", "(IIZ)I"⟩ : Cond) ∈ wq_all := List.mem_of_getElem? (i := 58) (by decide +kernel)
set_option maxRecDepth 20000 in
theorem wk_59 : (.selects "WorkspaceBoxModel" ⟨"WorkspaceBoxModel", "compare", "(IIZ)V"⟩ ⟨"WorkspaceBoxModel", "compare", "(IIZ)V"⟩ : Cond) ∈ wq_all := List.mem_of_getElem? (i := 59) (by decide +kernel)
set_option maxRecDepth 20000 in
theorem wk_60 : (.selects "WorkspaceBoxModel" ⟨"WorkspaceBoxModel", "flag", "(IZ)V"⟩ ⟨"WorkspaceBoxModel", "flag", "(IZ)V"⟩ : Cond) ∈ wq_all := List.mem_of_getElem? (i := 60) (by decide +kernel)
set_option maxRecDepth 20000 in
theorem wk_61 : (.selects "WorkspaceBoxModel" ⟨"WorkspaceBoxModel", "plus", "(IIZ)I"⟩ ⟨"WorkspaceBoxModel", "plus", "(IIZ)I"⟩ : Cond) ∈ wq_all := List.mem_of_getElem? (i := 61) (by decide +kernel)
set_option maxRecDepth 20000 in
theorem wk_62 : (.selects "WorkspaceBoxModel" ⟨"WorkspaceBoxModel", "odd", "(I)V"⟩ ⟨"WorkspaceBoxModel", "odd", "(I)V"⟩ : Cond) ∈ wq_all := List.mem_of_getElem? (i := 62) (by decide +kernel)
set_option maxRecDepth 20000 in
theorem wk_63 : (.selects "WorkspaceBoxModel" ⟨"WorkspaceBoxModel", "write", "(IIZ)V"⟩ ⟨"WorkspaceBoxModel", "write", "(IIZ)V"⟩ : Cond) ∈ wq_all := List.mem_of_getElem? (i := 63) (by decide +kernel)
set_option maxRecDepth 20000 in
theorem wk_64 : (.selects "WorkspaceBoxModel" ⟨"WorkspaceBoxModel", "withRegister", "(I)Z"⟩ ⟨"WorkspaceBoxModel", "withRegister", "(I)Z"⟩ : Cond) ∈ wq_all := List.mem_of_getElem? (i := 64) (by decide +kernel)
set_option maxRecDepth 20000 in
theorem wk_65 : (.selects "WorkspaceBoxModel" ⟨"WorkspaceBoxModel", "bits", "(IIZ)V"⟩ ⟨"WorkspaceBoxModel", "bits", "(IIZ)V"⟩ : Cond) ∈ wq_all := List.mem_of_getElem? (i := 65) (by decide +kernel)
set_option maxRecDepth 20000 in
theorem wk_66 : (.selects "WorkspaceBoxModel" ⟨"WorkspaceBoxModel", "base", "()I"⟩ ⟨"WorkspaceBoxModel", "base", "()I"⟩ : Cond) ∈ wq_all := List.mem_of_getElem? (i := 66) (by decide +kernel)
set_option maxRecDepth 20000 in
theorem wk_67 : (.selects "WorkspaceBoxModel" ⟨"WorkspaceBoxModel", "inOf", "(I)I"⟩ ⟨"WorkspaceBoxModel", "inOf", "(I)I"⟩ : Cond) ∈ wq_all := List.mem_of_getElem? (i := 67) (by decide +kernel)
set_option maxRecDepth 20000 in
theorem wk_68 : (.selects "WorkspaceBoxModel" ⟨"WorkspaceBoxModel", "divide", "(III)V"⟩ ⟨"WorkspaceBoxModel", "divide", "(III)V"⟩ : Cond) ∈ wq_all := List.mem_of_getElem? (i := 68) (by decide +kernel)
set_option maxRecDepth 20000 in
theorem wk_69 : (.selects "WorkspaceBoxModel" ⟨"WorkspaceBoxModel", "jump", "(I)V"⟩ ⟨"WorkspaceBoxModel", "jump", "(I)V"⟩ : Cond) ∈ wq_all := List.mem_of_getElem? (i := 69) (by decide +kernel)
set_option maxRecDepth 20000 in
theorem wk_70 : (.selects "WorkspaceBoxModel" ⟨"WorkspaceBoxModel", "jumps", "(I)Z"⟩ ⟨"WorkspaceBoxModel", "jumps", "(I)Z"⟩ : Cond) ∈ wq_all := List.mem_of_getElem? (i := 70) (by decide +kernel)
set_option maxRecDepth 20000 in
theorem wk_71 : (.selects "WorkspaceBoxModel" ⟨"WorkspaceBoxModel", "has", "(I)Z"⟩ ⟨"WorkspaceBoxModel", "has", "(I)Z"⟩ : Cond) ∈ wq_all := List.mem_of_getElem? (i := 71) (by decide +kernel)
set_option maxRecDepth 20000 in
theorem wk_72 : (.selects "WorkspaceBoxModel" ⟨"WorkspaceBoxModel", "shift", "(I)V"⟩ ⟨"WorkspaceBoxModel", "shift", "(I)V"⟩ : Cond) ∈ wq_all := List.mem_of_getElem? (i := 72) (by decide +kernel)
set_option maxRecDepth 20000 in
theorem wk_73 : (.selects "WorkspaceBoxModel" ⟨"WorkspaceBoxModel", "one", "(I)Z"⟩ ⟨"WorkspaceBoxModel", "one", "(I)Z"⟩ : Cond) ∈ wq_all := List.mem_of_getElem? (i := 73) (by decide +kernel)
set_option maxRecDepth 20000 in
theorem wk_74 : (.selects "WorkspaceBoxModel" ⟨"WorkspaceBoxModel", "changes", "(II)V"⟩ ⟨"WorkspaceBoxModel", "changes", "(II)V"⟩ : Cond) ∈ wq_all := List.mem_of_getElem? (i := 74) (by decide +kernel)
set_option maxRecDepth 20000 in
theorem wk_75 : (.selects "WorkspaceBoxModel" ⟨"WorkspaceBoxModel", "told", "(I)Z"⟩ ⟨"WorkspaceBoxModel", "told", "(I)Z"⟩ : Cond) ∈ wq_all := List.mem_of_getElem? (i := 75) (by decide +kernel)
set_option maxRecDepth 20000 in
theorem wk_76 : (.selects "WorkspaceBoxModel" ⟨"WorkspaceBoxModel", "immediate", "(III)V"⟩ ⟨"WorkspaceBoxModel", "immediate", "(III)V"⟩ : Cond) ∈ wq_all := List.mem_of_getElem? (i := 76) (by decide +kernel)
set_option maxRecDepth 20000 in
theorem wk_77 : (.selects "WorkspaceBoxModel" ⟨"WorkspaceBoxModel", "comesBack", "()V"⟩ ⟨"WorkspaceBoxModel", "comesBack", "()V"⟩ : Cond) ∈ wq_all := List.mem_of_getElem? (i := 77) (by decide +kernel)
set_option maxRecDepth 20000 in
theorem wk_78 : (.selects "WorkspaceBoxModel" ⟨"WorkspaceBoxModel", "plainWord", "(I)I"⟩ ⟨"WorkspaceBoxModel", "plainWord", "(I)I"⟩ : Cond) ∈ wq_all := List.mem_of_getElem? (i := 78) (by decide +kernel)
set_option maxRecDepth 20000 in
theorem wk_79 : ((Jvm.Cond.initialized "WorkspaceBoxLaw") : Cond) ∈ wq_all := List.mem_of_getElem? (i := 79) (by decide +kernel)
set_option maxRecDepth 20000 in
theorem wk_80 : ((Jvm.Cond.initialized "WorkspaceBox") : Cond) ∈ wq_all := List.mem_of_getElem? (i := 80) (by decide +kernel)
set_option maxRecDepth 20000 in
theorem wk_81 : ((Jvm.Cond.initialized "WorkspaceBox$Bytes") : Cond) ∈ wq_all := List.mem_of_getElem? (i := 81) (by decide +kernel)
set_option maxRecDepth 20000 in
theorem wk_82 : ((Jvm.Cond.initialized "WorkspaceBox$Picture") : Cond) ∈ wq_all := List.mem_of_getElem? (i := 82) (by decide +kernel)
set_option maxRecDepth 20000 in
theorem wk_83 : ((Jvm.Cond.initialized "WorkspaceBox$Grom") : Cond) ∈ wq_all := List.mem_of_getElem? (i := 83) (by decide +kernel)
set_option maxRecDepth 20000 in
theorem wk_84 : ((Jvm.Cond.initialized "WorkspaceBox$Wires") : Cond) ∈ wq_all := List.mem_of_getElem? (i := 84) (by decide +kernel)
set_option maxRecDepth 20000 in
theorem wk_85 : ((Jvm.Cond.initialized "WorkspaceBox$Memory") : Cond) ∈ wq_all := List.mem_of_getElem? (i := 85) (by decide +kernel)
set_option maxRecDepth 20000 in
theorem wk_86 : ((Jvm.Cond.initialized "WorkspaceBox$Processor") : Cond) ∈ wq_all := List.mem_of_getElem? (i := 86) (by decide +kernel)
set_option maxRecDepth 20000 in
theorem wk_87 : ((Jvm.Cond.initialized "WorkspaceBoxModel") : Cond) ∈ wq_all := List.mem_of_getElem? (i := 87) (by decide +kernel)
set_option maxRecDepth 20000 in
theorem wk_88 : ((Jvm.Cond.initialized "java/lang/Throwable") : Cond) ∈ wq_all := List.mem_of_getElem? (i := 88) (by decide +kernel)
set_option maxRecDepth 20000 in
theorem wk_89 : ((Jvm.Cond.initialized "java/lang/Exception") : Cond) ∈ wq_all := List.mem_of_getElem? (i := 89) (by decide +kernel)
set_option maxRecDepth 20000 in
theorem wk_90 : ((Jvm.Cond.initialized "java/lang/RuntimeException") : Cond) ∈ wq_all := List.mem_of_getElem? (i := 90) (by decide +kernel)
set_option maxRecDepth 20000 in
theorem wk_91 : ((Jvm.Cond.initialized "java/lang/IllegalArgumentException") : Cond) ∈ wq_all := List.mem_of_getElem? (i := 91) (by decide +kernel)
set_option maxRecDepth 20000 in
theorem wk_92 : ((Jvm.Cond.initialized "java/lang/Integer") : Cond) ∈ wq_all := List.mem_of_getElem? (i := 92) (by decide +kernel)
set_option maxRecDepth 20000 in
theorem wk_93 : ((Jvm.Cond.initialized "java/util/NoSuchElementException") : Cond) ∈ wq_all := List.mem_of_getElem? (i := 93) (by decide +kernel)
set_option maxRecDepth 20000 in
theorem wk_94 : ((Jvm.Cond.classLink "WorkspaceBoxLaw" (8 : Nat) "WorkspaceBox") : Cond) ∈ wq_all := List.mem_of_getElem? (i := 94) (by decide +kernel)
set_option maxRecDepth 20000 in
theorem wk_95 : ((Jvm.Cond.instantiable "WorkspaceBox" (7 : Nat)) : Cond) ∈ wq_all := List.mem_of_getElem? (i := 95) (by decide +kernel)
set_option maxRecDepth 20000 in
theorem wk_96 : ((Jvm.Cond.methodLink "WorkspaceBoxLaw" (20 : Nat) ({ cls := "WorkspaceBox", name := "<init>", desc := "()V" } : Jvm.MethodName)) : Cond) ∈ wq_all := List.mem_of_getElem? (i := 96) (by decide +kernel)
set_option maxRecDepth 20000 in
theorem wk_97 : ((Jvm.Cond.instanceMethod ({ cls := "WorkspaceBox", name := "<init>", desc := "()V" } : Jvm.MethodName)) : Cond) ∈ wq_all := List.mem_of_getElem? (i := 97) (by decide +kernel)
set_option maxRecDepth 20000 in
theorem wk_98 : ((Jvm.Cond.code ({ cls := "WorkspaceBox", name := "<init>", desc := "()V" } : Jvm.MethodName) prog_1_method_1_code (1 : Nat) (Option.none : Option Jvm.ClassFile.FieldType)) : Cond) ∈ wq_all := List.mem_of_getElem? (i := 98) (by decide +kernel)
set_option maxRecDepth 20000 in
theorem wk_99 : ((Jvm.Cond.methodLink "WorkspaceBox" (1 : Nat) ({ cls := "java/lang/Object", name := "<init>", desc := "()V" } : Jvm.MethodName)) : Cond) ∈ wq_all := List.mem_of_getElem? (i := 99) (by decide +kernel)
set_option maxRecDepth 20000 in
theorem wk_100 : ((Jvm.Cond.instanceMethod ({ cls := "java/lang/Object", name := "<init>", desc := "()V" } : Jvm.MethodName)) : Cond) ∈ wq_all := List.mem_of_getElem? (i := 100) (by decide +kernel)
set_option maxRecDepth 20000 in
theorem wk_101 : ((Jvm.Cond.code ({ cls := "java/lang/Object", name := "<init>", desc := "()V" } : Jvm.MethodName) object_method_1_code (1 : Nat) (Option.none : Option Jvm.ClassFile.FieldType)) : Cond) ∈ wq_all := List.mem_of_getElem? (i := 101) (by decide +kernel)
set_option maxRecDepth 20000 in
theorem wk_102 : ((Jvm.Cond.classLink "WorkspaceBox" (7 : Nat) "WorkspaceBox$Bytes") : Cond) ∈ wq_all := List.mem_of_getElem? (i := 102) (by decide +kernel)
set_option maxRecDepth 20000 in
theorem wk_103 : ((Jvm.Cond.instantiable "WorkspaceBox$Bytes" (1 : Nat)) : Cond) ∈ wq_all := List.mem_of_getElem? (i := 103) (by decide +kernel)
set_option maxRecDepth 20000 in
theorem wk_104 : ((Jvm.Cond.methodLink "WorkspaceBox" (11 : Nat) ({ cls := "WorkspaceBox$Bytes", name := "<init>", desc := "(I)V" } : Jvm.MethodName)) : Cond) ∈ wq_all := List.mem_of_getElem? (i := 104) (by decide +kernel)
set_option maxRecDepth 20000 in
theorem wk_105 : ((Jvm.Cond.instanceMethod ({ cls := "WorkspaceBox$Bytes", name := "<init>", desc := "(I)V" } : Jvm.MethodName)) : Cond) ∈ wq_all := List.mem_of_getElem? (i := 105) (by decide +kernel)
set_option maxRecDepth 20000 in
theorem wk_106 : ((Jvm.Cond.code ({ cls := "WorkspaceBox$Bytes", name := "<init>", desc := "(I)V" } : Jvm.MethodName) prog_2_method_1_code (2 : Nat) (Option.none : Option Jvm.ClassFile.FieldType)) : Cond) ∈ wq_all := List.mem_of_getElem? (i := 106) (by decide +kernel)
set_option maxRecDepth 20000 in
theorem wk_107 : ((Jvm.Cond.methodLink "WorkspaceBox$Bytes" (1 : Nat) ({ cls := "java/lang/Object", name := "<init>", desc := "()V" } : Jvm.MethodName)) : Cond) ∈ wq_all := List.mem_of_getElem? (i := 107) (by decide +kernel)
set_option maxRecDepth 20000 in
theorem wk_108 : ((Jvm.Cond.fieldLink "WorkspaceBox$Bytes" (7 : Nat) "WorkspaceBox$Bytes" "cells" "[J") : Cond) ∈ wq_all := List.mem_of_getElem? (i := 108) (by decide +kernel)
set_option maxRecDepth 20000 in
theorem wk_109 : ((Jvm.Cond.laysFinal "WorkspaceBox$Bytes" "WorkspaceBox$Bytes" "cells" "[J") : Cond) ∈ wq_all := List.mem_of_getElem? (i := 109) (by decide +kernel)
set_option maxRecDepth 20000 in
theorem wk_110 : ((Jvm.Cond.soleField "WorkspaceBox$Bytes" "cells") : Cond) ∈ wq_all := List.mem_of_getElem? (i := 110) (by decide +kernel)
set_option maxRecDepth 20000 in
theorem wk_111 : ((Jvm.Cond.superclass "WorkspaceBox$Bytes" "java/lang/Object") : Cond) ∈ wq_all := List.mem_of_getElem? (i := 111) (by decide +kernel)
set_option maxRecDepth 20000 in
theorem wk_112 : ((Jvm.Cond.arrayClass Jvm.ClassFile.FieldType.long) : Cond) ∈ wq_all := List.mem_of_getElem? (i := 112) (by decide +kernel)
set_option maxRecDepth 20000 in
theorem wk_113 : ((Jvm.Cond.classLink "WorkspaceBox" (18 : Nat) "WorkspaceBox$Picture") : Cond) ∈ wq_all := List.mem_of_getElem? (i := 113) (by decide +kernel)
set_option maxRecDepth 20000 in
theorem wk_114 : ((Jvm.Cond.instantiable "WorkspaceBox$Picture" (6 : Nat)) : Cond) ∈ wq_all := List.mem_of_getElem? (i := 114) (by decide +kernel)
set_option maxRecDepth 20000 in
theorem wk_115 : ((Jvm.Cond.instanceMethod ({ cls := "WorkspaceBox$Picture", name := "<init>", desc := "()V" } : Jvm.MethodName)) : Cond) ∈ wq_all := List.mem_of_getElem? (i := 115) (by decide +kernel)
set_option maxRecDepth 20000 in
theorem wk_116 : ((Jvm.Cond.code ({ cls := "WorkspaceBox$Picture", name := "<init>", desc := "()V" } : Jvm.MethodName) prog_5_method_1_code (1 : Nat) (Option.none : Option Jvm.ClassFile.FieldType)) : Cond) ∈ wq_all := List.mem_of_getElem? (i := 116) (by decide +kernel)
set_option maxRecDepth 20000 in
theorem wk_117 : ((Jvm.Cond.methodLink "WorkspaceBox$Picture" (3 : Nat) ({ cls := "java/lang/Object", name := "<init>", desc := "()V" } : Jvm.MethodName)) : Cond) ∈ wq_all := List.mem_of_getElem? (i := 117) (by decide +kernel)
set_option maxRecDepth 20000 in
theorem wk_118 : ((Jvm.Cond.classLink "WorkspaceBox$Picture" (9 : Nat) "WorkspaceBox$Bytes") : Cond) ∈ wq_all := List.mem_of_getElem? (i := 118) (by decide +kernel)
set_option maxRecDepth 20000 in
theorem wk_119 : ((Jvm.Cond.methodLink "WorkspaceBox$Picture" (11 : Nat) ({ cls := "WorkspaceBox$Bytes", name := "<init>", desc := "(I)V" } : Jvm.MethodName)) : Cond) ∈ wq_all := List.mem_of_getElem? (i := 119) (by decide +kernel)
set_option maxRecDepth 20000 in
theorem wk_120 : ((Jvm.Cond.fieldLink "WorkspaceBox$Picture" (14 : Nat) "WorkspaceBox$Picture" "cells" "LWorkspaceBox$Bytes;") : Cond) ∈ wq_all := List.mem_of_getElem? (i := 120) (by decide +kernel)
set_option maxRecDepth 20000 in
theorem wk_121 : ((Jvm.Cond.fieldLink "WorkspaceBox" (88 : Nat) "WorkspaceBox$Picture" "cells" "LWorkspaceBox$Bytes;") : Cond) ∈ wq_all := List.mem_of_getElem? (i := 121) (by decide +kernel)
set_option maxRecDepth 20000 in
theorem wk_122 : ((Jvm.Cond.fieldLink "WorkspaceBox$Picture" (20 : Nat) "WorkspaceBox$Picture" "registers" "[I") : Cond) ∈ wq_all := List.mem_of_getElem? (i := 122) (by decide +kernel)
set_option maxRecDepth 20000 in
theorem wk_123 : ((Jvm.Cond.fieldLink "WorkspaceBox" (148 : Nat) "WorkspaceBox$Picture" "registers" "[I") : Cond) ∈ wq_all := List.mem_of_getElem? (i := 123) (by decide +kernel)
set_option maxRecDepth 20000 in
theorem wk_124 : ((Jvm.Cond.fieldLink "WorkspaceBox$Picture" (31 : Nat) "WorkspaceBox$Picture" "address" "I") : Cond) ∈ wq_all := List.mem_of_getElem? (i := 124) (by decide +kernel)
set_option maxRecDepth 20000 in
theorem wk_125 : ((Jvm.Cond.fieldLink "WorkspaceBox" (135 : Nat) "WorkspaceBox$Picture" "address" "I") : Cond) ∈ wq_all := List.mem_of_getElem? (i := 125) (by decide +kernel)
set_option maxRecDepth 20000 in
theorem wk_126 : ((Jvm.Cond.fieldLink "WorkspaceBox$Picture" (28 : Nat) "WorkspaceBox$Picture" "buffer" "I") : Cond) ∈ wq_all := List.mem_of_getElem? (i := 126) (by decide +kernel)
set_option maxRecDepth 20000 in
theorem wk_127 : ((Jvm.Cond.fieldLink "WorkspaceBox" (138 : Nat) "WorkspaceBox$Picture" "buffer" "I") : Cond) ∈ wq_all := List.mem_of_getElem? (i := 127) (by decide +kernel)
set_option maxRecDepth 20000 in
theorem wk_128 : ((Jvm.Cond.fieldLink "WorkspaceBox$Picture" (24 : Nat) "WorkspaceBox$Picture" "latch" "I") : Cond) ∈ wq_all := List.mem_of_getElem? (i := 128) (by decide +kernel)
set_option maxRecDepth 20000 in
theorem wk_129 : ((Jvm.Cond.fieldLink "WorkspaceBox" (141 : Nat) "WorkspaceBox$Picture" "latch" "I") : Cond) ∈ wq_all := List.mem_of_getElem? (i := 129) (by decide +kernel)
set_option maxRecDepth 20000 in
theorem wk_130 : ((Jvm.Cond.fieldLink "WorkspaceBox$Picture" (38 : Nat) "WorkspaceBox$Picture" "shown" "Z") : Cond) ∈ wq_all := List.mem_of_getElem? (i := 130) (by decide +kernel)
set_option maxRecDepth 20000 in
theorem wk_131 : ((Jvm.Cond.fieldLink "WorkspaceBox$Wires" (19 : Nat) "WorkspaceBox$Picture" "shown" "Z") : Cond) ∈ wq_all := List.mem_of_getElem? (i := 131) (by decide +kernel)
set_option maxRecDepth 20000 in
theorem wk_132 : ((Jvm.Cond.fieldLink "WorkspaceBox" (144 : Nat) "WorkspaceBox$Picture" "shown" "Z") : Cond) ∈ wq_all := List.mem_of_getElem? (i := 132) (by decide +kernel)
set_option maxRecDepth 20000 in
theorem wk_133 : ((Jvm.Cond.laysFinal "WorkspaceBox$Picture" "WorkspaceBox$Picture" "cells" "LWorkspaceBox$Bytes;") : Cond) ∈ wq_all := List.mem_of_getElem? (i := 133) (by decide +kernel)
set_option maxRecDepth 20000 in
theorem wk_134 : ((Jvm.Cond.soleField "WorkspaceBox$Picture" "cells") : Cond) ∈ wq_all := List.mem_of_getElem? (i := 134) (by decide +kernel)
set_option maxRecDepth 20000 in
theorem wk_135 : ((Jvm.Cond.laysFinal "WorkspaceBox$Picture" "WorkspaceBox$Picture" "registers" "[I") : Cond) ∈ wq_all := List.mem_of_getElem? (i := 135) (by decide +kernel)
set_option maxRecDepth 20000 in
theorem wk_136 : ((Jvm.Cond.soleField "WorkspaceBox$Picture" "registers") : Cond) ∈ wq_all := List.mem_of_getElem? (i := 136) (by decide +kernel)
set_option maxRecDepth 20000 in
theorem wk_137 : ((Jvm.Cond.lays "WorkspaceBox$Picture" "WorkspaceBox$Picture" "address" "I") : Cond) ∈ wq_all := List.mem_of_getElem? (i := 137) (by decide +kernel)
set_option maxRecDepth 20000 in
theorem wk_138 : ((Jvm.Cond.soleField "WorkspaceBox$Picture" "address") : Cond) ∈ wq_all := List.mem_of_getElem? (i := 138) (by decide +kernel)
set_option maxRecDepth 20000 in
theorem wk_139 : ((Jvm.Cond.lays "WorkspaceBox$Picture" "WorkspaceBox$Picture" "buffer" "I") : Cond) ∈ wq_all := List.mem_of_getElem? (i := 139) (by decide +kernel)
set_option maxRecDepth 20000 in
theorem wk_140 : ((Jvm.Cond.soleField "WorkspaceBox$Picture" "buffer") : Cond) ∈ wq_all := List.mem_of_getElem? (i := 140) (by decide +kernel)
set_option maxRecDepth 20000 in
theorem wk_141 : ((Jvm.Cond.lays "WorkspaceBox$Picture" "WorkspaceBox$Picture" "latch" "I") : Cond) ∈ wq_all := List.mem_of_getElem? (i := 141) (by decide +kernel)
set_option maxRecDepth 20000 in
theorem wk_142 : ((Jvm.Cond.soleField "WorkspaceBox$Picture" "latch") : Cond) ∈ wq_all := List.mem_of_getElem? (i := 142) (by decide +kernel)
set_option maxRecDepth 20000 in
theorem wk_143 : ((Jvm.Cond.lays "WorkspaceBox$Picture" "WorkspaceBox$Picture" "shown" "Z") : Cond) ∈ wq_all := List.mem_of_getElem? (i := 143) (by decide +kernel)
set_option maxRecDepth 20000 in
theorem wk_144 : ((Jvm.Cond.soleField "WorkspaceBox$Picture" "shown") : Cond) ∈ wq_all := List.mem_of_getElem? (i := 144) (by decide +kernel)
set_option maxRecDepth 20000 in
theorem wk_145 : ((Jvm.Cond.superclass "WorkspaceBox$Picture" "java/lang/Object") : Cond) ∈ wq_all := List.mem_of_getElem? (i := 145) (by decide +kernel)
set_option maxRecDepth 20000 in
theorem wk_146 : ((Jvm.Cond.arrayClass Jvm.ClassFile.FieldType.int) : Cond) ∈ wq_all := List.mem_of_getElem? (i := 146) (by decide +kernel)
set_option maxRecDepth 20000 in
theorem wk_147 : ((Jvm.Cond.classLink "WorkspaceBox" (25 : Nat) "WorkspaceBox$Grom") : Cond) ∈ wq_all := List.mem_of_getElem? (i := 147) (by decide +kernel)
set_option maxRecDepth 20000 in
theorem wk_148 : ((Jvm.Cond.instantiable "WorkspaceBox$Grom" (4 : Nat)) : Cond) ∈ wq_all := List.mem_of_getElem? (i := 148) (by decide +kernel)
set_option maxRecDepth 20000 in
theorem wk_149 : ((Jvm.Cond.instanceMethod ({ cls := "WorkspaceBox$Grom", name := "<init>", desc := "()V" } : Jvm.MethodName)) : Cond) ∈ wq_all := List.mem_of_getElem? (i := 149) (by decide +kernel)
set_option maxRecDepth 20000 in
theorem wk_150 : ((Jvm.Cond.code ({ cls := "WorkspaceBox$Grom", name := "<init>", desc := "()V" } : Jvm.MethodName) prog_3_method_1_code (1 : Nat) (Option.none : Option Jvm.ClassFile.FieldType)) : Cond) ∈ wq_all := List.mem_of_getElem? (i := 150) (by decide +kernel)
set_option maxRecDepth 20000 in
theorem wk_151 : ((Jvm.Cond.methodLink "WorkspaceBox$Grom" (3 : Nat) ({ cls := "java/lang/Object", name := "<init>", desc := "()V" } : Jvm.MethodName)) : Cond) ∈ wq_all := List.mem_of_getElem? (i := 151) (by decide +kernel)
set_option maxRecDepth 20000 in
theorem wk_152 : ((Jvm.Cond.classLink "WorkspaceBox$Grom" (9 : Nat) "WorkspaceBox$Bytes") : Cond) ∈ wq_all := List.mem_of_getElem? (i := 152) (by decide +kernel)
set_option maxRecDepth 20000 in
theorem wk_153 : ((Jvm.Cond.methodLink "WorkspaceBox$Grom" (11 : Nat) ({ cls := "WorkspaceBox$Bytes", name := "<init>", desc := "(I)V" } : Jvm.MethodName)) : Cond) ∈ wq_all := List.mem_of_getElem? (i := 153) (by decide +kernel)
set_option maxRecDepth 20000 in
theorem wk_154 : ((Jvm.Cond.fieldLink "WorkspaceBox$Grom" (14 : Nat) "WorkspaceBox$Grom" "cells" "LWorkspaceBox$Bytes;") : Cond) ∈ wq_all := List.mem_of_getElem? (i := 154) (by decide +kernel)
set_option maxRecDepth 20000 in
theorem wk_155 : ((Jvm.Cond.fieldLink "WorkspaceBox" (91 : Nat) "WorkspaceBox$Grom" "cells" "LWorkspaceBox$Bytes;") : Cond) ∈ wq_all := List.mem_of_getElem? (i := 155) (by decide +kernel)
set_option maxRecDepth 20000 in
theorem wk_156 : ((Jvm.Cond.fieldLink "WorkspaceBox$Grom" (24 : Nat) "WorkspaceBox$Grom" "address" "I") : Cond) ∈ wq_all := List.mem_of_getElem? (i := 156) (by decide +kernel)
set_option maxRecDepth 20000 in
theorem wk_157 : ((Jvm.Cond.fieldLink "WorkspaceBox" (157 : Nat) "WorkspaceBox$Grom" "address" "I") : Cond) ∈ wq_all := List.mem_of_getElem? (i := 157) (by decide +kernel)
set_option maxRecDepth 20000 in
theorem wk_158 : ((Jvm.Cond.fieldLink "WorkspaceBox$Grom" (20 : Nat) "WorkspaceBox$Grom" "buffer" "I") : Cond) ∈ wq_all := List.mem_of_getElem? (i := 158) (by decide +kernel)
set_option maxRecDepth 20000 in
theorem wk_159 : ((Jvm.Cond.fieldLink "WorkspaceBox" (158 : Nat) "WorkspaceBox$Grom" "buffer" "I") : Cond) ∈ wq_all := List.mem_of_getElem? (i := 159) (by decide +kernel)
set_option maxRecDepth 20000 in
theorem wk_160 : ((Jvm.Cond.fieldLink "WorkspaceBox$Grom" (32 : Nat) "WorkspaceBox$Grom" "latchFull" "Z") : Cond) ∈ wq_all := List.mem_of_getElem? (i := 160) (by decide +kernel)
set_option maxRecDepth 20000 in
theorem wk_161 : ((Jvm.Cond.fieldLink "WorkspaceBox" (159 : Nat) "WorkspaceBox$Grom" "latchFull" "Z") : Cond) ∈ wq_all := List.mem_of_getElem? (i := 161) (by decide +kernel)
set_option maxRecDepth 20000 in
theorem wk_162 : ((Jvm.Cond.laysFinal "WorkspaceBox$Grom" "WorkspaceBox$Grom" "cells" "LWorkspaceBox$Bytes;") : Cond) ∈ wq_all := List.mem_of_getElem? (i := 162) (by decide +kernel)
set_option maxRecDepth 20000 in
theorem wk_163 : ((Jvm.Cond.soleField "WorkspaceBox$Grom" "cells") : Cond) ∈ wq_all := List.mem_of_getElem? (i := 163) (by decide +kernel)
set_option maxRecDepth 20000 in
theorem wk_164 : ((Jvm.Cond.lays "WorkspaceBox$Grom" "WorkspaceBox$Grom" "address" "I") : Cond) ∈ wq_all := List.mem_of_getElem? (i := 164) (by decide +kernel)
set_option maxRecDepth 20000 in
theorem wk_165 : ((Jvm.Cond.soleField "WorkspaceBox$Grom" "address") : Cond) ∈ wq_all := List.mem_of_getElem? (i := 165) (by decide +kernel)
set_option maxRecDepth 20000 in
theorem wk_166 : ((Jvm.Cond.lays "WorkspaceBox$Grom" "WorkspaceBox$Grom" "buffer" "I") : Cond) ∈ wq_all := List.mem_of_getElem? (i := 166) (by decide +kernel)
set_option maxRecDepth 20000 in
theorem wk_167 : ((Jvm.Cond.soleField "WorkspaceBox$Grom" "buffer") : Cond) ∈ wq_all := List.mem_of_getElem? (i := 167) (by decide +kernel)
set_option maxRecDepth 20000 in
theorem wk_168 : ((Jvm.Cond.lays "WorkspaceBox$Grom" "WorkspaceBox$Grom" "latchFull" "Z") : Cond) ∈ wq_all := List.mem_of_getElem? (i := 168) (by decide +kernel)
set_option maxRecDepth 20000 in
theorem wk_169 : ((Jvm.Cond.soleField "WorkspaceBox$Grom" "latchFull") : Cond) ∈ wq_all := List.mem_of_getElem? (i := 169) (by decide +kernel)
set_option maxRecDepth 20000 in
theorem wk_170 : ((Jvm.Cond.superclass "WorkspaceBox$Grom" "java/lang/Object") : Cond) ∈ wq_all := List.mem_of_getElem? (i := 170) (by decide +kernel)
set_option maxRecDepth 20000 in
theorem wk_171 : ((Jvm.Cond.classLink "WorkspaceBox" (32 : Nat) "WorkspaceBox$Wires") : Cond) ∈ wq_all := List.mem_of_getElem? (i := 171) (by decide +kernel)
set_option maxRecDepth 20000 in
theorem wk_172 : ((Jvm.Cond.instantiable "WorkspaceBox$Wires" (3 : Nat)) : Cond) ∈ wq_all := List.mem_of_getElem? (i := 172) (by decide +kernel)
set_option maxRecDepth 20000 in
theorem wk_173 : ((Jvm.Cond.methodLink "WorkspaceBox" (34 : Nat) ({ cls := "WorkspaceBox$Wires", name := "<init>", desc := "(LWorkspaceBox$Picture;)V" } : Jvm.MethodName)) : Cond) ∈ wq_all := List.mem_of_getElem? (i := 173) (by decide +kernel)
set_option maxRecDepth 20000 in
theorem wk_174 : ((Jvm.Cond.instanceMethod ({ cls := "WorkspaceBox$Wires", name := "<init>", desc := "(LWorkspaceBox$Picture;)V" } : Jvm.MethodName)) : Cond) ∈ wq_all := List.mem_of_getElem? (i := 174) (by decide +kernel)
set_option maxRecDepth 20000 in
theorem wk_175 : ((Jvm.Cond.code ({ cls := "WorkspaceBox$Wires", name := "<init>", desc := "(LWorkspaceBox$Picture;)V" } : Jvm.MethodName) prog_7_method_1_code (2 : Nat) (Option.none : Option Jvm.ClassFile.FieldType)) : Cond) ∈ wq_all := List.mem_of_getElem? (i := 175) (by decide +kernel)
set_option maxRecDepth 20000 in
theorem wk_176 : ((Jvm.Cond.methodLink "WorkspaceBox$Wires" (1 : Nat) ({ cls := "java/lang/Object", name := "<init>", desc := "()V" } : Jvm.MethodName)) : Cond) ∈ wq_all := List.mem_of_getElem? (i := 176) (by decide +kernel)
set_option maxRecDepth 20000 in
theorem wk_177 : ((Jvm.Cond.fieldLink "WorkspaceBox$Wires" (13 : Nat) "WorkspaceBox$Wires" "picture" "LWorkspaceBox$Picture;") : Cond) ∈ wq_all := List.mem_of_getElem? (i := 177) (by decide +kernel)
set_option maxRecDepth 20000 in
theorem wk_178 : ((Jvm.Cond.fieldLink "WorkspaceBox$Wires" (7 : Nat) "WorkspaceBox$Wires" "went" "[J") : Cond) ∈ wq_all := List.mem_of_getElem? (i := 178) (by decide +kernel)
set_option maxRecDepth 20000 in
theorem wk_179 : ((Jvm.Cond.fieldLink "WorkspaceBox$Wires" (29 : Nat) "WorkspaceBox$Wires" "keysDown" "J") : Cond) ∈ wq_all := List.mem_of_getElem? (i := 179) (by decide +kernel)
set_option maxRecDepth 20000 in
theorem wk_180 : ((Jvm.Cond.laysFinal "WorkspaceBox$Wires" "WorkspaceBox$Wires" "picture" "LWorkspaceBox$Picture;") : Cond) ∈ wq_all := List.mem_of_getElem? (i := 180) (by decide +kernel)
set_option maxRecDepth 20000 in
theorem wk_181 : ((Jvm.Cond.soleField "WorkspaceBox$Wires" "picture") : Cond) ∈ wq_all := List.mem_of_getElem? (i := 181) (by decide +kernel)
set_option maxRecDepth 20000 in
theorem wk_182 : ((Jvm.Cond.laysFinal "WorkspaceBox$Wires" "WorkspaceBox$Wires" "went" "[J") : Cond) ∈ wq_all := List.mem_of_getElem? (i := 182) (by decide +kernel)
set_option maxRecDepth 20000 in
theorem wk_183 : ((Jvm.Cond.soleField "WorkspaceBox$Wires" "went") : Cond) ∈ wq_all := List.mem_of_getElem? (i := 183) (by decide +kernel)
set_option maxRecDepth 20000 in
theorem wk_184 : ((Jvm.Cond.lays "WorkspaceBox$Wires" "WorkspaceBox$Wires" "keysDown" "J") : Cond) ∈ wq_all := List.mem_of_getElem? (i := 184) (by decide +kernel)
set_option maxRecDepth 20000 in
theorem wk_185 : ((Jvm.Cond.soleField "WorkspaceBox$Wires" "keysDown") : Cond) ∈ wq_all := List.mem_of_getElem? (i := 185) (by decide +kernel)
set_option maxRecDepth 20000 in
theorem wk_186 : ((Jvm.Cond.superclass "WorkspaceBox$Wires" "java/lang/Object") : Cond) ∈ wq_all := List.mem_of_getElem? (i := 186) (by decide +kernel)
set_option maxRecDepth 20000 in
theorem wk_187 : ((Jvm.Cond.classLink "WorkspaceBox" (41 : Nat) "WorkspaceBox$Memory") : Cond) ∈ wq_all := List.mem_of_getElem? (i := 187) (by decide +kernel)
set_option maxRecDepth 20000 in
theorem wk_188 : ((Jvm.Cond.instantiable "WorkspaceBox$Memory" (5 : Nat)) : Cond) ∈ wq_all := List.mem_of_getElem? (i := 188) (by decide +kernel)
set_option maxRecDepth 20000 in
theorem wk_189 : ((Jvm.Cond.methodLink "WorkspaceBox" (43 : Nat) ({ cls := "WorkspaceBox$Memory", name := "<init>", desc := "(LWorkspaceBox$Picture;LWorkspaceBox$Grom;)V" } : Jvm.MethodName)) : Cond) ∈ wq_all := List.mem_of_getElem? (i := 189) (by decide +kernel)
set_option maxRecDepth 20000 in
theorem wk_190 : ((Jvm.Cond.instanceMethod ({ cls := "WorkspaceBox$Memory", name := "<init>", desc := "(LWorkspaceBox$Picture;LWorkspaceBox$Grom;)V" } : Jvm.MethodName)) : Cond) ∈ wq_all := List.mem_of_getElem? (i := 190) (by decide +kernel)
set_option maxRecDepth 20000 in
theorem wk_191 : ((Jvm.Cond.code ({ cls := "WorkspaceBox$Memory", name := "<init>", desc := "(LWorkspaceBox$Picture;LWorkspaceBox$Grom;)V" } : Jvm.MethodName) prog_4_method_1_code (3 : Nat) (Option.none : Option Jvm.ClassFile.FieldType)) : Cond) ∈ wq_all := List.mem_of_getElem? (i := 191) (by decide +kernel)
set_option maxRecDepth 20000 in
theorem wk_192 : ((Jvm.Cond.methodLink "WorkspaceBox$Memory" (3 : Nat) ({ cls := "java/lang/Object", name := "<init>", desc := "()V" } : Jvm.MethodName)) : Cond) ∈ wq_all := List.mem_of_getElem? (i := 192) (by decide +kernel)
set_option maxRecDepth 20000 in
theorem wk_193 : ((Jvm.Cond.classLink "WorkspaceBox$Memory" (9 : Nat) "WorkspaceBox$Bytes") : Cond) ∈ wq_all := List.mem_of_getElem? (i := 193) (by decide +kernel)
set_option maxRecDepth 20000 in
theorem wk_194 : ((Jvm.Cond.methodLink "WorkspaceBox$Memory" (11 : Nat) ({ cls := "WorkspaceBox$Bytes", name := "<init>", desc := "(I)V" } : Jvm.MethodName)) : Cond) ∈ wq_all := List.mem_of_getElem? (i := 194) (by decide +kernel)
set_option maxRecDepth 20000 in
theorem wk_195 : ((Jvm.Cond.constant "WorkspaceBox$Memory" (20 : Nat) (32768 : Int32)) : Cond) ∈ wq_all := List.mem_of_getElem? (i := 195) (by decide +kernel)
set_option maxRecDepth 20000 in
theorem wk_196 : ((Jvm.Cond.fieldLink "WorkspaceBox$Memory" (14 : Nat) "WorkspaceBox$Memory" "rom" "LWorkspaceBox$Bytes;") : Cond) ∈ wq_all := List.mem_of_getElem? (i := 196) (by decide +kernel)
set_option maxRecDepth 20000 in
theorem wk_197 : ((Jvm.Cond.fieldLink "WorkspaceBox" (82 : Nat) "WorkspaceBox$Memory" "rom" "LWorkspaceBox$Bytes;") : Cond) ∈ wq_all := List.mem_of_getElem? (i := 197) (by decide +kernel)
set_option maxRecDepth 20000 in
theorem wk_198 : ((Jvm.Cond.fieldLink "WorkspaceBox$Memory" (21 : Nat) "WorkspaceBox$Memory" "ram" "LWorkspaceBox$Bytes;") : Cond) ∈ wq_all := List.mem_of_getElem? (i := 198) (by decide +kernel)
set_option maxRecDepth 20000 in
theorem wk_199 : ((Jvm.Cond.fieldLink "WorkspaceBox$Memory" (24 : Nat) "WorkspaceBox$Memory" "pad" "LWorkspaceBox$Bytes;") : Cond) ∈ wq_all := List.mem_of_getElem? (i := 199) (by decide +kernel)
set_option maxRecDepth 20000 in
theorem wk_200 : ((Jvm.Cond.fieldLink "WorkspaceBox$Memory" (27 : Nat) "WorkspaceBox$Memory" "picture" "LWorkspaceBox$Picture;") : Cond) ∈ wq_all := List.mem_of_getElem? (i := 200) (by decide +kernel)
set_option maxRecDepth 20000 in
theorem wk_201 : ((Jvm.Cond.fieldLink "WorkspaceBox$Memory" (31 : Nat) "WorkspaceBox$Memory" "grom" "LWorkspaceBox$Grom;") : Cond) ∈ wq_all := List.mem_of_getElem? (i := 201) (by decide +kernel)
set_option maxRecDepth 20000 in
theorem wk_202 : ((Jvm.Cond.laysFinal "WorkspaceBox$Memory" "WorkspaceBox$Memory" "rom" "LWorkspaceBox$Bytes;") : Cond) ∈ wq_all := List.mem_of_getElem? (i := 202) (by decide +kernel)
set_option maxRecDepth 20000 in
theorem wk_203 : ((Jvm.Cond.soleField "WorkspaceBox$Memory" "rom") : Cond) ∈ wq_all := List.mem_of_getElem? (i := 203) (by decide +kernel)
set_option maxRecDepth 20000 in
theorem wk_204 : ((Jvm.Cond.laysFinal "WorkspaceBox$Memory" "WorkspaceBox$Memory" "ram" "LWorkspaceBox$Bytes;") : Cond) ∈ wq_all := List.mem_of_getElem? (i := 204) (by decide +kernel)
set_option maxRecDepth 20000 in
theorem wk_205 : ((Jvm.Cond.soleField "WorkspaceBox$Memory" "ram") : Cond) ∈ wq_all := List.mem_of_getElem? (i := 205) (by decide +kernel)
set_option maxRecDepth 20000 in
theorem wk_206 : ((Jvm.Cond.laysFinal "WorkspaceBox$Memory" "WorkspaceBox$Memory" "pad" "LWorkspaceBox$Bytes;") : Cond) ∈ wq_all := List.mem_of_getElem? (i := 206) (by decide +kernel)
set_option maxRecDepth 20000 in
theorem wk_207 : ((Jvm.Cond.soleField "WorkspaceBox$Memory" "pad") : Cond) ∈ wq_all := List.mem_of_getElem? (i := 207) (by decide +kernel)
set_option maxRecDepth 20000 in
theorem wk_208 : ((Jvm.Cond.laysFinal "WorkspaceBox$Memory" "WorkspaceBox$Memory" "picture" "LWorkspaceBox$Picture;") : Cond) ∈ wq_all := List.mem_of_getElem? (i := 208) (by decide +kernel)
set_option maxRecDepth 20000 in
theorem wk_209 : ((Jvm.Cond.soleField "WorkspaceBox$Memory" "picture") : Cond) ∈ wq_all := List.mem_of_getElem? (i := 209) (by decide +kernel)
set_option maxRecDepth 20000 in
theorem wk_210 : ((Jvm.Cond.laysFinal "WorkspaceBox$Memory" "WorkspaceBox$Memory" "grom" "LWorkspaceBox$Grom;") : Cond) ∈ wq_all := List.mem_of_getElem? (i := 210) (by decide +kernel)
set_option maxRecDepth 20000 in
theorem wk_211 : ((Jvm.Cond.soleField "WorkspaceBox$Memory" "grom") : Cond) ∈ wq_all := List.mem_of_getElem? (i := 211) (by decide +kernel)
set_option maxRecDepth 20000 in
theorem wk_212 : ((Jvm.Cond.superclass "WorkspaceBox$Memory" "java/lang/Object") : Cond) ∈ wq_all := List.mem_of_getElem? (i := 212) (by decide +kernel)
set_option maxRecDepth 20000 in
theorem wk_213 : ((Jvm.Cond.classLink "WorkspaceBox" (50 : Nat) "WorkspaceBox$Processor") : Cond) ∈ wq_all := List.mem_of_getElem? (i := 213) (by decide +kernel)
set_option maxRecDepth 20000 in
theorem wk_214 : ((Jvm.Cond.instantiable "WorkspaceBox$Processor" (12 : Nat)) : Cond) ∈ wq_all := List.mem_of_getElem? (i := 214) (by decide +kernel)
set_option maxRecDepth 20000 in
theorem wk_215 : ((Jvm.Cond.methodLink "WorkspaceBox" (52 : Nat) ({ cls := "WorkspaceBox$Processor", name := "<init>", desc := "(LWorkspaceBox$Memory;LWorkspaceBox$Picture;LWorkspaceBox$Wires;)V" } : Jvm.MethodName)) : Cond) ∈ wq_all := List.mem_of_getElem? (i := 215) (by decide +kernel)
set_option maxRecDepth 20000 in
theorem wk_216 : ((Jvm.Cond.instanceMethod ({ cls := "WorkspaceBox$Processor", name := "<init>", desc := "(LWorkspaceBox$Memory;LWorkspaceBox$Picture;LWorkspaceBox$Wires;)V" } : Jvm.MethodName)) : Cond) ∈ wq_all := List.mem_of_getElem? (i := 216) (by decide +kernel)
set_option maxRecDepth 20000 in
theorem wk_217 : ((Jvm.Cond.code ({ cls := "WorkspaceBox$Processor", name := "<init>", desc := "(LWorkspaceBox$Memory;LWorkspaceBox$Picture;LWorkspaceBox$Wires;)V" } : Jvm.MethodName) prog_6_method_1_code (4 : Nat) (Option.none : Option Jvm.ClassFile.FieldType)) : Cond) ∈ wq_all := List.mem_of_getElem? (i := 217) (by decide +kernel)
set_option maxRecDepth 20000 in
theorem wk_218 : ((Jvm.Cond.methodLink "WorkspaceBox$Processor" (1 : Nat) ({ cls := "java/lang/Object", name := "<init>", desc := "()V" } : Jvm.MethodName)) : Cond) ∈ wq_all := List.mem_of_getElem? (i := 218) (by decide +kernel)
set_option maxRecDepth 20000 in
theorem wk_219 : ((Jvm.Cond.fieldLink "WorkspaceBox$Processor" (13 : Nat) "WorkspaceBox$Processor" "memory" "LWorkspaceBox$Memory;") : Cond) ∈ wq_all := List.mem_of_getElem? (i := 219) (by decide +kernel)
set_option maxRecDepth 20000 in
theorem wk_220 : ((Jvm.Cond.fieldLink "WorkspaceBox$Processor" (17 : Nat) "WorkspaceBox$Processor" "picture" "LWorkspaceBox$Picture;") : Cond) ∈ wq_all := List.mem_of_getElem? (i := 220) (by decide +kernel)
set_option maxRecDepth 20000 in
theorem wk_221 : ((Jvm.Cond.fieldLink "WorkspaceBox$Processor" (21 : Nat) "WorkspaceBox$Processor" "wires" "LWorkspaceBox$Wires;") : Cond) ∈ wq_all := List.mem_of_getElem? (i := 221) (by decide +kernel)
set_option maxRecDepth 20000 in
theorem wk_222 : ((Jvm.Cond.fieldLink "WorkspaceBox$Processor" (35 : Nat) "WorkspaceBox$Processor" "pc" "I") : Cond) ∈ wq_all := List.mem_of_getElem? (i := 222) (by decide +kernel)
set_option maxRecDepth 20000 in
theorem wk_223 : ((Jvm.Cond.fieldLink "WorkspaceBox" (109 : Nat) "WorkspaceBox$Processor" "pc" "I") : Cond) ∈ wq_all := List.mem_of_getElem? (i := 223) (by decide +kernel)
set_option maxRecDepth 20000 in
theorem wk_224 : ((Jvm.Cond.fieldLink "WorkspaceBox$Processor" (32 : Nat) "WorkspaceBox$Processor" "wp" "I") : Cond) ∈ wq_all := List.mem_of_getElem? (i := 224) (by decide +kernel)
set_option maxRecDepth 20000 in
theorem wk_225 : ((Jvm.Cond.fieldLink "WorkspaceBox" (112 : Nat) "WorkspaceBox$Processor" "wp" "I") : Cond) ∈ wq_all := List.mem_of_getElem? (i := 225) (by decide +kernel)
set_option maxRecDepth 20000 in
theorem wk_226 : ((Jvm.Cond.fieldLink "WorkspaceBox$Processor" (38 : Nat) "WorkspaceBox$Processor" "st" "I") : Cond) ∈ wq_all := List.mem_of_getElem? (i := 226) (by decide +kernel)
set_option maxRecDepth 20000 in
theorem wk_227 : ((Jvm.Cond.fieldLink "WorkspaceBox" (115 : Nat) "WorkspaceBox$Processor" "st" "I") : Cond) ∈ wq_all := List.mem_of_getElem? (i := 227) (by decide +kernel)
set_option maxRecDepth 20000 in
theorem wk_228 : ((Jvm.Cond.fieldLink "WorkspaceBox$Processor" (9 : Nat) "WorkspaceBox$Processor" "mode" "I") : Cond) ∈ wq_all := List.mem_of_getElem? (i := 228) (by decide +kernel)
set_option maxRecDepth 20000 in
theorem wk_229 : ((Jvm.Cond.fieldLink "WorkspaceBox" (118 : Nat) "WorkspaceBox$Processor" "mode" "I") : Cond) ∈ wq_all := List.mem_of_getElem? (i := 229) (by decide +kernel)
set_option maxRecDepth 20000 in
theorem wk_230 : ((Jvm.Cond.fieldLink "WorkspaceBox$Processor" (94 : Nat) "WorkspaceBox$Processor" "instructionsDone" "I") : Cond) ∈ wq_all := List.mem_of_getElem? (i := 230) (by decide +kernel)
set_option maxRecDepth 20000 in
theorem wk_231 : ((Jvm.Cond.fieldLink "WorkspaceBox" (121 : Nat) "WorkspaceBox$Processor" "instructionsDone" "I") : Cond) ∈ wq_all := List.mem_of_getElem? (i := 231) (by decide +kernel)
set_option maxRecDepth 20000 in
theorem wk_232 : ((Jvm.Cond.fieldLink "WorkspaceBox$Processor" (63 : Nat) "WorkspaceBox$Processor" "interruptsDone" "I") : Cond) ∈ wq_all := List.mem_of_getElem? (i := 232) (by decide +kernel)
set_option maxRecDepth 20000 in
theorem wk_233 : ((Jvm.Cond.fieldLink "WorkspaceBox" (124 : Nat) "WorkspaceBox$Processor" "interruptsDone" "I") : Cond) ∈ wq_all := List.mem_of_getElem? (i := 233) (by decide +kernel)
set_option maxRecDepth 20000 in
theorem wk_234 : ((Jvm.Cond.fieldLink "WorkspaceBox$Processor" (41 : Nat) "WorkspaceBox$Processor" "told" "I") : Cond) ∈ wq_all := List.mem_of_getElem? (i := 234) (by decide +kernel)
set_option maxRecDepth 20000 in
theorem wk_235 : ((Jvm.Cond.fieldLink "WorkspaceBox" (162 : Nat) "WorkspaceBox$Processor" "told" "I") : Cond) ∈ wq_all := List.mem_of_getElem? (i := 235) (by decide +kernel)
set_option maxRecDepth 20000 in
theorem wk_236 : ((Jvm.Cond.fieldLink "WorkspaceBox$Processor" (79 : Nat) "WorkspaceBox$Processor" "instruction" "I") : Cond) ∈ wq_all := List.mem_of_getElem? (i := 236) (by decide +kernel)
set_option maxRecDepth 20000 in
theorem wk_237 : ((Jvm.Cond.fieldLink "WorkspaceBox$Processor" (44 : Nat) "WorkspaceBox$Processor" "shielded" "Z") : Cond) ∈ wq_all := List.mem_of_getElem? (i := 237) (by decide +kernel)
set_option maxRecDepth 20000 in
theorem wk_238 : ((Jvm.Cond.laysFinal "WorkspaceBox$Processor" "WorkspaceBox$Processor" "memory" "LWorkspaceBox$Memory;") : Cond) ∈ wq_all := List.mem_of_getElem? (i := 238) (by decide +kernel)
set_option maxRecDepth 20000 in
theorem wk_239 : ((Jvm.Cond.soleField "WorkspaceBox$Processor" "memory") : Cond) ∈ wq_all := List.mem_of_getElem? (i := 239) (by decide +kernel)
set_option maxRecDepth 20000 in
theorem wk_240 : ((Jvm.Cond.laysFinal "WorkspaceBox$Processor" "WorkspaceBox$Processor" "picture" "LWorkspaceBox$Picture;") : Cond) ∈ wq_all := List.mem_of_getElem? (i := 240) (by decide +kernel)
set_option maxRecDepth 20000 in
theorem wk_241 : ((Jvm.Cond.soleField "WorkspaceBox$Processor" "picture") : Cond) ∈ wq_all := List.mem_of_getElem? (i := 241) (by decide +kernel)
set_option maxRecDepth 20000 in
theorem wk_242 : ((Jvm.Cond.laysFinal "WorkspaceBox$Processor" "WorkspaceBox$Processor" "wires" "LWorkspaceBox$Wires;") : Cond) ∈ wq_all := List.mem_of_getElem? (i := 242) (by decide +kernel)
set_option maxRecDepth 20000 in
theorem wk_243 : ((Jvm.Cond.soleField "WorkspaceBox$Processor" "wires") : Cond) ∈ wq_all := List.mem_of_getElem? (i := 243) (by decide +kernel)
set_option maxRecDepth 20000 in
theorem wk_244 : ((Jvm.Cond.lays "WorkspaceBox$Processor" "WorkspaceBox$Processor" "pc" "I") : Cond) ∈ wq_all := List.mem_of_getElem? (i := 244) (by decide +kernel)
set_option maxRecDepth 20000 in
theorem wk_245 : ((Jvm.Cond.soleField "WorkspaceBox$Processor" "pc") : Cond) ∈ wq_all := List.mem_of_getElem? (i := 245) (by decide +kernel)
set_option maxRecDepth 20000 in
theorem wk_246 : ((Jvm.Cond.lays "WorkspaceBox$Processor" "WorkspaceBox$Processor" "wp" "I") : Cond) ∈ wq_all := List.mem_of_getElem? (i := 246) (by decide +kernel)
set_option maxRecDepth 20000 in
theorem wk_247 : ((Jvm.Cond.soleField "WorkspaceBox$Processor" "wp") : Cond) ∈ wq_all := List.mem_of_getElem? (i := 247) (by decide +kernel)
set_option maxRecDepth 20000 in
theorem wk_248 : ((Jvm.Cond.lays "WorkspaceBox$Processor" "WorkspaceBox$Processor" "st" "I") : Cond) ∈ wq_all := List.mem_of_getElem? (i := 248) (by decide +kernel)
set_option maxRecDepth 20000 in
theorem wk_249 : ((Jvm.Cond.soleField "WorkspaceBox$Processor" "st") : Cond) ∈ wq_all := List.mem_of_getElem? (i := 249) (by decide +kernel)
set_option maxRecDepth 20000 in
theorem wk_250 : ((Jvm.Cond.lays "WorkspaceBox$Processor" "WorkspaceBox$Processor" "mode" "I") : Cond) ∈ wq_all := List.mem_of_getElem? (i := 250) (by decide +kernel)
set_option maxRecDepth 20000 in
theorem wk_251 : ((Jvm.Cond.soleField "WorkspaceBox$Processor" "mode") : Cond) ∈ wq_all := List.mem_of_getElem? (i := 251) (by decide +kernel)
set_option maxRecDepth 20000 in
theorem wk_252 : ((Jvm.Cond.lays "WorkspaceBox$Processor" "WorkspaceBox$Processor" "instructionsDone" "I") : Cond) ∈ wq_all := List.mem_of_getElem? (i := 252) (by decide +kernel)
set_option maxRecDepth 20000 in
theorem wk_253 : ((Jvm.Cond.soleField "WorkspaceBox$Processor" "instructionsDone") : Cond) ∈ wq_all := List.mem_of_getElem? (i := 253) (by decide +kernel)
set_option maxRecDepth 20000 in
theorem wk_254 : ((Jvm.Cond.lays "WorkspaceBox$Processor" "WorkspaceBox$Processor" "interruptsDone" "I") : Cond) ∈ wq_all := List.mem_of_getElem? (i := 254) (by decide +kernel)
set_option maxRecDepth 20000 in
theorem wk_255 : ((Jvm.Cond.soleField "WorkspaceBox$Processor" "interruptsDone") : Cond) ∈ wq_all := List.mem_of_getElem? (i := 255) (by decide +kernel)
set_option maxRecDepth 20000 in
theorem wk_256 : ((Jvm.Cond.lays "WorkspaceBox$Processor" "WorkspaceBox$Processor" "told" "I") : Cond) ∈ wq_all := List.mem_of_getElem? (i := 256) (by decide +kernel)
set_option maxRecDepth 20000 in
theorem wk_257 : ((Jvm.Cond.soleField "WorkspaceBox$Processor" "told") : Cond) ∈ wq_all := List.mem_of_getElem? (i := 257) (by decide +kernel)
set_option maxRecDepth 20000 in
theorem wk_258 : ((Jvm.Cond.lays "WorkspaceBox$Processor" "WorkspaceBox$Processor" "instruction" "I") : Cond) ∈ wq_all := List.mem_of_getElem? (i := 258) (by decide +kernel)
set_option maxRecDepth 20000 in
theorem wk_259 : ((Jvm.Cond.soleField "WorkspaceBox$Processor" "instruction") : Cond) ∈ wq_all := List.mem_of_getElem? (i := 259) (by decide +kernel)
set_option maxRecDepth 20000 in
theorem wk_260 : ((Jvm.Cond.lays "WorkspaceBox$Processor" "WorkspaceBox$Processor" "shielded" "Z") : Cond) ∈ wq_all := List.mem_of_getElem? (i := 260) (by decide +kernel)
set_option maxRecDepth 20000 in
theorem wk_261 : ((Jvm.Cond.soleField "WorkspaceBox$Processor" "shielded") : Cond) ∈ wq_all := List.mem_of_getElem? (i := 261) (by decide +kernel)
set_option maxRecDepth 20000 in
theorem wk_262 : ((Jvm.Cond.superclass "WorkspaceBox$Processor" "java/lang/Object") : Cond) ∈ wq_all := List.mem_of_getElem? (i := 262) (by decide +kernel)
set_option maxRecDepth 20000 in
theorem wk_263 : ((Jvm.Cond.fieldLink "WorkspaceBox" (14 : Nat) "WorkspaceBox" "tape" "LWorkspaceBox$Bytes;") : Cond) ∈ wq_all := List.mem_of_getElem? (i := 263) (by decide +kernel)
set_option maxRecDepth 20000 in
theorem wk_264 : ((Jvm.Cond.fieldLink "WorkspaceBox" (21 : Nat) "WorkspaceBox" "picture" "LWorkspaceBox$Picture;") : Cond) ∈ wq_all := List.mem_of_getElem? (i := 264) (by decide +kernel)
set_option maxRecDepth 20000 in
theorem wk_265 : ((Jvm.Cond.fieldLink "WorkspaceBox" (28 : Nat) "WorkspaceBox" "grom" "LWorkspaceBox$Grom;") : Cond) ∈ wq_all := List.mem_of_getElem? (i := 265) (by decide +kernel)
set_option maxRecDepth 20000 in
theorem wk_266 : ((Jvm.Cond.fieldLink "WorkspaceBox" (37 : Nat) "WorkspaceBox" "wires" "LWorkspaceBox$Wires;") : Cond) ∈ wq_all := List.mem_of_getElem? (i := 266) (by decide +kernel)
set_option maxRecDepth 20000 in
theorem wk_267 : ((Jvm.Cond.fieldLink "WorkspaceBox" (46 : Nat) "WorkspaceBox" "memory" "LWorkspaceBox$Memory;") : Cond) ∈ wq_all := List.mem_of_getElem? (i := 267) (by decide +kernel)
set_option maxRecDepth 20000 in
theorem wk_268 : ((Jvm.Cond.fieldLink "WorkspaceBox" (55 : Nat) "WorkspaceBox" "processor" "LWorkspaceBox$Processor;") : Cond) ∈ wq_all := List.mem_of_getElem? (i := 268) (by decide +kernel)
set_option maxRecDepth 20000 in
theorem wk_269 : ((Jvm.Cond.fieldLink "WorkspaceBox" (59 : Nat) "WorkspaceBox" "tapeLength" "I") : Cond) ∈ wq_all := List.mem_of_getElem? (i := 269) (by decide +kernel)
set_option maxRecDepth 20000 in
theorem wk_270 : ((Jvm.Cond.laysFinal "WorkspaceBox" "WorkspaceBox" "tape" "LWorkspaceBox$Bytes;") : Cond) ∈ wq_all := List.mem_of_getElem? (i := 270) (by decide +kernel)
set_option maxRecDepth 20000 in
theorem wk_271 : ((Jvm.Cond.soleField "WorkspaceBox" "tape") : Cond) ∈ wq_all := List.mem_of_getElem? (i := 271) (by decide +kernel)
set_option maxRecDepth 20000 in
theorem wk_272 : ((Jvm.Cond.laysFinal "WorkspaceBox" "WorkspaceBox" "picture" "LWorkspaceBox$Picture;") : Cond) ∈ wq_all := List.mem_of_getElem? (i := 272) (by decide +kernel)
set_option maxRecDepth 20000 in
theorem wk_273 : ((Jvm.Cond.soleField "WorkspaceBox" "picture") : Cond) ∈ wq_all := List.mem_of_getElem? (i := 273) (by decide +kernel)
set_option maxRecDepth 20000 in
theorem wk_274 : ((Jvm.Cond.laysFinal "WorkspaceBox" "WorkspaceBox" "grom" "LWorkspaceBox$Grom;") : Cond) ∈ wq_all := List.mem_of_getElem? (i := 274) (by decide +kernel)
set_option maxRecDepth 20000 in
theorem wk_275 : ((Jvm.Cond.soleField "WorkspaceBox" "grom") : Cond) ∈ wq_all := List.mem_of_getElem? (i := 275) (by decide +kernel)
set_option maxRecDepth 20000 in
theorem wk_276 : ((Jvm.Cond.laysFinal "WorkspaceBox" "WorkspaceBox" "wires" "LWorkspaceBox$Wires;") : Cond) ∈ wq_all := List.mem_of_getElem? (i := 276) (by decide +kernel)
set_option maxRecDepth 20000 in
theorem wk_277 : ((Jvm.Cond.soleField "WorkspaceBox" "wires") : Cond) ∈ wq_all := List.mem_of_getElem? (i := 277) (by decide +kernel)
set_option maxRecDepth 20000 in
theorem wk_278 : ((Jvm.Cond.laysFinal "WorkspaceBox" "WorkspaceBox" "memory" "LWorkspaceBox$Memory;") : Cond) ∈ wq_all := List.mem_of_getElem? (i := 278) (by decide +kernel)
set_option maxRecDepth 20000 in
theorem wk_279 : ((Jvm.Cond.soleField "WorkspaceBox" "memory") : Cond) ∈ wq_all := List.mem_of_getElem? (i := 279) (by decide +kernel)
set_option maxRecDepth 20000 in
theorem wk_280 : ((Jvm.Cond.laysFinal "WorkspaceBox" "WorkspaceBox" "processor" "LWorkspaceBox$Processor;") : Cond) ∈ wq_all := List.mem_of_getElem? (i := 280) (by decide +kernel)
set_option maxRecDepth 20000 in
theorem wk_281 : ((Jvm.Cond.soleField "WorkspaceBox" "processor") : Cond) ∈ wq_all := List.mem_of_getElem? (i := 281) (by decide +kernel)
set_option maxRecDepth 20000 in
theorem wk_282 : ((Jvm.Cond.lays "WorkspaceBox" "WorkspaceBox" "tapeLength" "I") : Cond) ∈ wq_all := List.mem_of_getElem? (i := 282) (by decide +kernel)
set_option maxRecDepth 20000 in
theorem wk_283 : ((Jvm.Cond.soleField "WorkspaceBox" "tapeLength") : Cond) ∈ wq_all := List.mem_of_getElem? (i := 283) (by decide +kernel)
set_option maxRecDepth 20000 in
theorem wk_284 : ((Jvm.Cond.superclass "WorkspaceBox" "java/lang/Object") : Cond) ∈ wq_all := List.mem_of_getElem? (i := 284) (by decide +kernel)
set_option maxRecDepth 20000 in
theorem wk_285 : ((Jvm.Cond.methodLink "WorkspaceBoxLaw" (24 : Nat) ({ cls := "WorkspaceBox", name := "feed", desc := "(IIIII)I" } : Jvm.MethodName)) : Cond) ∈ wq_all := List.mem_of_getElem? (i := 285) (by decide +kernel)
set_option maxRecDepth 20000 in
theorem wk_286 : ((Jvm.Cond.instanceMethod ({ cls := "WorkspaceBox", name := "feed", desc := "(IIIII)I" } : Jvm.MethodName)) : Cond) ∈ wq_all := List.mem_of_getElem? (i := 286) (by decide +kernel)
set_option maxRecDepth 20000 in
theorem wk_287 : ((Jvm.Cond.selects "WorkspaceBox" ({ cls := "WorkspaceBox", name := "feed", desc := "(IIIII)I" } : Jvm.MethodName) ({ cls := "WorkspaceBox", name := "feed", desc := "(IIIII)I" } : Jvm.MethodName)) : Cond) ∈ wq_all := List.mem_of_getElem? (i := 287) (by decide +kernel)
set_option maxRecDepth 20000 in
theorem wk_288 : ((Jvm.Cond.code ({ cls := "WorkspaceBox", name := "feed", desc := "(IIIII)I" } : Jvm.MethodName) prog_1_method_2_code (6 : Nat) (Option.some Jvm.ClassFile.FieldType.int)) : Cond) ∈ wq_all := List.mem_of_getElem? (i := 288) (by decide +kernel)
set_option maxRecDepth 20000 in
theorem wk_289 : ((Jvm.Cond.methodLink "WorkspaceBox" (63 : Nat) ({ cls := "WorkspaceBox", name := "append", desc := "(I)V" } : Jvm.MethodName)) : Cond) ∈ wq_all := List.mem_of_getElem? (i := 289) (by decide +kernel)
set_option maxRecDepth 20000 in
theorem wk_290 : ((Jvm.Cond.instanceMethod ({ cls := "WorkspaceBox", name := "append", desc := "(I)V" } : Jvm.MethodName)) : Cond) ∈ wq_all := List.mem_of_getElem? (i := 290) (by decide +kernel)
set_option maxRecDepth 20000 in
theorem wk_291 : ((Jvm.Cond.code ({ cls := "WorkspaceBox", name := "append", desc := "(I)V" } : Jvm.MethodName) prog_1_method_3_code (3 : Nat) (Option.none : Option Jvm.ClassFile.FieldType)) : Cond) ∈ wq_all := List.mem_of_getElem? (i := 291) (by decide +kernel)
set_option maxRecDepth 20000 in
theorem wk_292 : ((Jvm.Cond.methodLink "WorkspaceBox" (66 : Nat) ({ cls := "WorkspaceBox$Bytes", name := "put", desc := "(II)V" } : Jvm.MethodName)) : Cond) ∈ wq_all := List.mem_of_getElem? (i := 292) (by decide +kernel)
set_option maxRecDepth 20000 in
theorem wk_293 : ((Jvm.Cond.instanceMethod ({ cls := "WorkspaceBox$Bytes", name := "put", desc := "(II)V" } : Jvm.MethodName)) : Cond) ∈ wq_all := List.mem_of_getElem? (i := 293) (by decide +kernel)
set_option maxRecDepth 20000 in
theorem wk_294 : ((Jvm.Cond.selects "WorkspaceBox$Bytes" ({ cls := "WorkspaceBox$Bytes", name := "put", desc := "(II)V" } : Jvm.MethodName) ({ cls := "WorkspaceBox$Bytes", name := "put", desc := "(II)V" } : Jvm.MethodName)) : Cond) ∈ wq_all := List.mem_of_getElem? (i := 294) (by decide +kernel)
set_option maxRecDepth 20000 in
theorem wk_295 : ((Jvm.Cond.code ({ cls := "WorkspaceBox$Bytes", name := "put", desc := "(II)V" } : Jvm.MethodName) prog_2_method_3_code (7 : Nat) (Option.none : Option Jvm.ClassFile.FieldType)) : Cond) ∈ wq_all := List.mem_of_getElem? (i := 295) (by decide +kernel)
set_option maxRecDepth 20000 in
theorem wk_296 : ((Jvm.Cond.constantLong "WorkspaceBox$Bytes" (13 : Nat) (255 : Int64)) : Cond) ∈ wq_all := List.mem_of_getElem? (i := 296) (by decide +kernel)
set_option maxRecDepth 20000 in
theorem wk_297 : ((Jvm.Cond.constantLong "WorkspaceBox$Bytes" (15 : Nat) (-1 : Int64)) : Cond) ∈ wq_all := List.mem_of_getElem? (i := 297) (by decide +kernel)
set_option maxRecDepth 20000 in
theorem wk_298 : ((Jvm.Cond.methodLink "WorkspaceBoxLaw" (29 : Nat) ({ cls := "WorkspaceBox", name := "end", desc := "(I)I" } : Jvm.MethodName)) : Cond) ∈ wq_all := List.mem_of_getElem? (i := 298) (by decide +kernel)
set_option maxRecDepth 20000 in
theorem wk_299 : ((Jvm.Cond.instanceMethod ({ cls := "WorkspaceBox", name := "end", desc := "(I)I" } : Jvm.MethodName)) : Cond) ∈ wq_all := List.mem_of_getElem? (i := 299) (by decide +kernel)
set_option maxRecDepth 20000 in
theorem wk_300 : ((Jvm.Cond.selects "WorkspaceBox" ({ cls := "WorkspaceBox", name := "end", desc := "(I)I" } : Jvm.MethodName) ({ cls := "WorkspaceBox", name := "end", desc := "(I)I" } : Jvm.MethodName)) : Cond) ∈ wq_all := List.mem_of_getElem? (i := 300) (by decide +kernel)
set_option maxRecDepth 20000 in
theorem wk_301 : ((Jvm.Cond.code ({ cls := "WorkspaceBox", name := "end", desc := "(I)I" } : Jvm.MethodName) prog_1_method_4_code (2 : Nat) (Option.some Jvm.ClassFile.FieldType.int)) : Cond) ∈ wq_all := List.mem_of_getElem? (i := 301) (by decide +kernel)
set_option maxRecDepth 20000 in
theorem wk_302 : ((Jvm.Cond.methodLink "WorkspaceBoxLaw" (33 : Nat) ({ cls := "WorkspaceBox", name := "load", desc := "(II)I" } : Jvm.MethodName)) : Cond) ∈ wq_all := List.mem_of_getElem? (i := 302) (by decide +kernel)
set_option maxRecDepth 20000 in
theorem wk_303 : ((Jvm.Cond.instanceMethod ({ cls := "WorkspaceBox", name := "load", desc := "(II)I" } : Jvm.MethodName)) : Cond) ∈ wq_all := List.mem_of_getElem? (i := 303) (by decide +kernel)
set_option maxRecDepth 20000 in
theorem wk_304 : ((Jvm.Cond.selects "WorkspaceBox" ({ cls := "WorkspaceBox", name := "load", desc := "(II)I" } : Jvm.MethodName) ({ cls := "WorkspaceBox", name := "load", desc := "(II)I" } : Jvm.MethodName)) : Cond) ∈ wq_all := List.mem_of_getElem? (i := 304) (by decide +kernel)
set_option maxRecDepth 20000 in
theorem wk_305 : ((Jvm.Cond.code ({ cls := "WorkspaceBox", name := "load", desc := "(II)I" } : Jvm.MethodName) prog_1_method_5_code (6 : Nat) (Option.some Jvm.ClassFile.FieldType.int)) : Cond) ∈ wq_all := List.mem_of_getElem? (i := 305) (by decide +kernel)
set_option maxRecDepth 20000 in
theorem wk_306 : ((Jvm.Cond.methodLink "WorkspaceBox" (70 : Nat) ({ cls := "WorkspaceBox", name := "sizeOfArea", desc := "(I)I" } : Jvm.MethodName)) : Cond) ∈ wq_all := List.mem_of_getElem? (i := 306) (by decide +kernel)
set_option maxRecDepth 20000 in
theorem wk_307 : ((Jvm.Cond.static ({ cls := "WorkspaceBox", name := "sizeOfArea", desc := "(I)I" } : Jvm.MethodName)) : Cond) ∈ wq_all := List.mem_of_getElem? (i := 307) (by decide +kernel)
set_option maxRecDepth 20000 in
theorem wk_308 : ((Jvm.Cond.code ({ cls := "WorkspaceBox", name := "sizeOfArea", desc := "(I)I" } : Jvm.MethodName) prog_1_method_6_code (1 : Nat) (Option.some Jvm.ClassFile.FieldType.int)) : Cond) ∈ wq_all := List.mem_of_getElem? (i := 308) (by decide +kernel)
set_option maxRecDepth 20000 in
theorem wk_309 : ((Jvm.Cond.constant "WorkspaceBox" (81 : Nat) (65536 : Int32)) : Cond) ∈ wq_all := List.mem_of_getElem? (i := 309) (by decide +kernel)
set_option maxRecDepth 20000 in
theorem wk_310 : ((Jvm.Cond.methodLink "WorkspaceBox" (74 : Nat) ({ cls := "WorkspaceBox$Bytes", name := "get", desc := "(I)I" } : Jvm.MethodName)) : Cond) ∈ wq_all := List.mem_of_getElem? (i := 310) (by decide +kernel)
set_option maxRecDepth 20000 in
theorem wk_311 : ((Jvm.Cond.instanceMethod ({ cls := "WorkspaceBox$Bytes", name := "get", desc := "(I)I" } : Jvm.MethodName)) : Cond) ∈ wq_all := List.mem_of_getElem? (i := 311) (by decide +kernel)
set_option maxRecDepth 20000 in
theorem wk_312 : ((Jvm.Cond.selects "WorkspaceBox$Bytes" ({ cls := "WorkspaceBox$Bytes", name := "get", desc := "(I)I" } : Jvm.MethodName) ({ cls := "WorkspaceBox$Bytes", name := "get", desc := "(I)I" } : Jvm.MethodName)) : Cond) ∈ wq_all := List.mem_of_getElem? (i := 312) (by decide +kernel)
set_option maxRecDepth 20000 in
theorem wk_313 : ((Jvm.Cond.code ({ cls := "WorkspaceBox$Bytes", name := "get", desc := "(I)I" } : Jvm.MethodName) prog_2_method_2_code (3 : Nat) (Option.some Jvm.ClassFile.FieldType.int)) : Cond) ∈ wq_all := List.mem_of_getElem? (i := 313) (by decide +kernel)
set_option maxRecDepth 20000 in
theorem wk_314 : ((Jvm.Cond.methodLink "WorkspaceBox" (77 : Nat) ({ cls := "WorkspaceBox", name := "putInArea", desc := "(III)V" } : Jvm.MethodName)) : Cond) ∈ wq_all := List.mem_of_getElem? (i := 314) (by decide +kernel)
set_option maxRecDepth 20000 in
theorem wk_315 : ((Jvm.Cond.instanceMethod ({ cls := "WorkspaceBox", name := "putInArea", desc := "(III)V" } : Jvm.MethodName)) : Cond) ∈ wq_all := List.mem_of_getElem? (i := 315) (by decide +kernel)
set_option maxRecDepth 20000 in
theorem wk_316 : ((Jvm.Cond.code ({ cls := "WorkspaceBox", name := "putInArea", desc := "(III)V" } : Jvm.MethodName) prog_1_method_7_code (4 : Nat) (Option.none : Option Jvm.ClassFile.FieldType)) : Cond) ∈ wq_all := List.mem_of_getElem? (i := 316) (by decide +kernel)
set_option maxRecDepth 20000 in
theorem wk_317 : ((Jvm.Cond.methodLink "WorkspaceBox" (85 : Nat) ({ cls := "WorkspaceBox$Memory", name := "putByte", desc := "(II)V" } : Jvm.MethodName)) : Cond) ∈ wq_all := List.mem_of_getElem? (i := 317) (by decide +kernel)
set_option maxRecDepth 20000 in
theorem wk_318 : ((Jvm.Cond.instanceMethod ({ cls := "WorkspaceBox$Memory", name := "putByte", desc := "(II)V" } : Jvm.MethodName)) : Cond) ∈ wq_all := List.mem_of_getElem? (i := 318) (by decide +kernel)
set_option maxRecDepth 20000 in
theorem wk_319 : ((Jvm.Cond.selects "WorkspaceBox$Memory" ({ cls := "WorkspaceBox$Memory", name := "putByte", desc := "(II)V" } : Jvm.MethodName) ({ cls := "WorkspaceBox$Memory", name := "putByte", desc := "(II)V" } : Jvm.MethodName)) : Cond) ∈ wq_all := List.mem_of_getElem? (i := 319) (by decide +kernel)
set_option maxRecDepth 20000 in
theorem wk_320 : ((Jvm.Cond.code ({ cls := "WorkspaceBox$Memory", name := "putByte", desc := "(II)V" } : Jvm.MethodName) prog_4_method_5_code (6 : Nat) (Option.none : Option Jvm.ClassFile.FieldType)) : Cond) ∈ wq_all := List.mem_of_getElem? (i := 320) (by decide +kernel)
set_option maxRecDepth 20000 in
theorem wk_321 : ((Jvm.Cond.constant "WorkspaceBox$Memory" (46 : Nat) (65535 : Int32)) : Cond) ∈ wq_all := List.mem_of_getElem? (i := 321) (by decide +kernel)
set_option maxRecDepth 20000 in
theorem wk_322 : ((Jvm.Cond.constant "WorkspaceBox$Memory" (47 : Nat) (64513 : Int32)) : Cond) ∈ wq_all := List.mem_of_getElem? (i := 322) (by decide +kernel)
set_option maxRecDepth 20000 in
theorem wk_323 : ((Jvm.Cond.methodLink "WorkspaceBox$Memory" (66 : Nat) ({ cls := "WorkspaceBox$Picture", name := "writeControl", desc := "(I)V" } : Jvm.MethodName)) : Cond) ∈ wq_all := List.mem_of_getElem? (i := 323) (by decide +kernel)
set_option maxRecDepth 20000 in
theorem wk_324 : ((Jvm.Cond.instanceMethod ({ cls := "WorkspaceBox$Picture", name := "writeControl", desc := "(I)V" } : Jvm.MethodName)) : Cond) ∈ wq_all := List.mem_of_getElem? (i := 324) (by decide +kernel)
set_option maxRecDepth 20000 in
theorem wk_325 : ((Jvm.Cond.selects "WorkspaceBox$Picture" ({ cls := "WorkspaceBox$Picture", name := "writeControl", desc := "(I)V" } : Jvm.MethodName) ({ cls := "WorkspaceBox$Picture", name := "writeControl", desc := "(I)V" } : Jvm.MethodName)) : Cond) ∈ wq_all := List.mem_of_getElem? (i := 325) (by decide +kernel)
set_option maxRecDepth 20000 in
theorem wk_326 : ((Jvm.Cond.code ({ cls := "WorkspaceBox$Picture", name := "writeControl", desc := "(I)V" } : Jvm.MethodName) prog_5_method_5_code (4 : Nat) (Option.none : Option Jvm.ClassFile.FieldType)) : Cond) ∈ wq_all := List.mem_of_getElem? (i := 326) (by decide +kernel)
set_option maxRecDepth 20000 in
theorem wk_327 : ((Jvm.Cond.methodLink "WorkspaceBox$Picture" (34 : Nat) ({ cls := "WorkspaceBox$Bytes", name := "get", desc := "(I)I" } : Jvm.MethodName)) : Cond) ∈ wq_all := List.mem_of_getElem? (i := 327) (by decide +kernel)
set_option maxRecDepth 20000 in
theorem wk_328 : ((Jvm.Cond.methodLink "WorkspaceBox$Memory" (69 : Nat) ({ cls := "WorkspaceBox$Picture", name := "writeData", desc := "(I)V" } : Jvm.MethodName)) : Cond) ∈ wq_all := List.mem_of_getElem? (i := 328) (by decide +kernel)
set_option maxRecDepth 20000 in
theorem wk_329 : ((Jvm.Cond.instanceMethod ({ cls := "WorkspaceBox$Picture", name := "writeData", desc := "(I)V" } : Jvm.MethodName)) : Cond) ∈ wq_all := List.mem_of_getElem? (i := 329) (by decide +kernel)
