set_option maxRecDepth 20000 in
theorem wk_529 : ((Jvm.Cond.selects "WorkspaceBox$Picture" ({ cls := "WorkspaceBox$Picture", name := "asksForInterrupt", desc := "()Z" } : Jvm.MethodName) ({ cls := "WorkspaceBox$Picture", name := "asksForInterrupt", desc := "()Z" } : Jvm.MethodName)) : Cond) ∈ wq_all := List.mem_of_getElem? (i := 529) (by decide +kernel)
set_option maxRecDepth 20000 in
theorem wk_530 : ((Jvm.Cond.code ({ cls := "WorkspaceBox$Picture", name := "asksForInterrupt", desc := "()Z" } : Jvm.MethodName) prog_5_method_6_code (1 : Nat) (Option.some Jvm.ClassFile.FieldType.boolean)) : Cond) ∈ wq_all := List.mem_of_getElem? (i := 530) (by decide +kernel)
set_option maxRecDepth 20000 in
theorem wk_531 : ((Jvm.Cond.methodLink "WorkspaceBox$Processor" (73 : Nat) ({ cls := "WorkspaceBox$Wires", name := "sent", desc := "(I)I" } : Jvm.MethodName)) : Cond) ∈ wq_all := List.mem_of_getElem? (i := 531) (by decide +kernel)
set_option maxRecDepth 20000 in
theorem wk_532 : ((Jvm.Cond.methodLink "WorkspaceBox$Processor" (59 : Nat) ({ cls := "WorkspaceBox$Processor", name := "enter", desc := "(I)V" } : Jvm.MethodName)) : Cond) ∈ wq_all := List.mem_of_getElem? (i := 532) (by decide +kernel)
set_option maxRecDepth 20000 in
theorem wk_533 : ((Jvm.Cond.instanceMethod ({ cls := "WorkspaceBox$Processor", name := "enter", desc := "(I)V" } : Jvm.MethodName)) : Cond) ∈ wq_all := List.mem_of_getElem? (i := 533) (by decide +kernel)
set_option maxRecDepth 20000 in
theorem wk_534 : ((Jvm.Cond.code ({ cls := "WorkspaceBox$Processor", name := "enter", desc := "(I)V" } : Jvm.MethodName) prog_6_method_13_code (5 : Nat) (Option.none : Option Jvm.ClassFile.FieldType)) : Cond) ∈ wq_all := List.mem_of_getElem? (i := 534) (by decide +kernel)
set_option maxRecDepth 20000 in
theorem wk_535 : ((Jvm.Cond.methodLink "WorkspaceBox$Processor" (128 : Nat) ({ cls := "WorkspaceBox$Processor", name := "registerAddress", desc := "(I)I" } : Jvm.MethodName)) : Cond) ∈ wq_all := List.mem_of_getElem? (i := 535) (by decide +kernel)
set_option maxRecDepth 20000 in
theorem wk_536 : ((Jvm.Cond.instanceMethod ({ cls := "WorkspaceBox$Processor", name := "registerAddress", desc := "(I)I" } : Jvm.MethodName)) : Cond) ∈ wq_all := List.mem_of_getElem? (i := 536) (by decide +kernel)
set_option maxRecDepth 20000 in
theorem wk_537 : ((Jvm.Cond.code ({ cls := "WorkspaceBox$Processor", name := "registerAddress", desc := "(I)I" } : Jvm.MethodName) prog_6_method_11_code (2 : Nat) (Option.some Jvm.ClassFile.FieldType.int)) : Cond) ∈ wq_all := List.mem_of_getElem? (i := 537) (by decide +kernel)
set_option maxRecDepth 20000 in
theorem wk_538 : ((Jvm.Cond.constant "WorkspaceBox$Processor" (127 : Nat) (65535 : Int32)) : Cond) ∈ wq_all := List.mem_of_getElem? (i := 538) (by decide +kernel)
set_option maxRecDepth 20000 in
theorem wk_539 : ((Jvm.Cond.methodLink "WorkspaceBox$Processor" (131 : Nat) ({ cls := "WorkspaceBox$Memory", name := "putWord", desc := "(II)V" } : Jvm.MethodName)) : Cond) ∈ wq_all := List.mem_of_getElem? (i := 539) (by decide +kernel)
set_option maxRecDepth 20000 in
theorem wk_540 : ((Jvm.Cond.instanceMethod ({ cls := "WorkspaceBox$Memory", name := "putWord", desc := "(II)V" } : Jvm.MethodName)) : Cond) ∈ wq_all := List.mem_of_getElem? (i := 540) (by decide +kernel)
set_option maxRecDepth 20000 in
theorem wk_541 : ((Jvm.Cond.selects "WorkspaceBox$Memory" ({ cls := "WorkspaceBox$Memory", name := "putWord", desc := "(II)V" } : Jvm.MethodName) ({ cls := "WorkspaceBox$Memory", name := "putWord", desc := "(II)V" } : Jvm.MethodName)) : Cond) ∈ wq_all := List.mem_of_getElem? (i := 541) (by decide +kernel)
set_option maxRecDepth 20000 in
theorem wk_542 : ((Jvm.Cond.code ({ cls := "WorkspaceBox$Memory", name := "putWord", desc := "(II)V" } : Jvm.MethodName) prog_4_method_3_code (3 : Nat) (Option.none : Option Jvm.ClassFile.FieldType)) : Cond) ∈ wq_all := List.mem_of_getElem? (i := 542) (by decide +kernel)
set_option maxRecDepth 20000 in
theorem wk_543 : ((Jvm.Cond.methodLink "WorkspaceBox$Memory" (42 : Nat) ({ cls := "WorkspaceBox$Memory", name := "putByte", desc := "(II)V" } : Jvm.MethodName)) : Cond) ∈ wq_all := List.mem_of_getElem? (i := 543) (by decide +kernel)
set_option maxRecDepth 20000 in
theorem wk_544 : ((Jvm.Cond.methodLink "WorkspaceBox$Processor" (51 : Nat) ({ cls := "WorkspaceBox$Processor", name := "fetchInstruction", desc := "()Z" } : Jvm.MethodName)) : Cond) ∈ wq_all := List.mem_of_getElem? (i := 544) (by decide +kernel)
set_option maxRecDepth 20000 in
theorem wk_545 : ((Jvm.Cond.instanceMethod ({ cls := "WorkspaceBox$Processor", name := "fetchInstruction", desc := "()Z" } : Jvm.MethodName)) : Cond) ∈ wq_all := List.mem_of_getElem? (i := 545) (by decide +kernel)
set_option maxRecDepth 20000 in
theorem wk_546 : ((Jvm.Cond.code ({ cls := "WorkspaceBox$Processor", name := "fetchInstruction", desc := "()Z" } : Jvm.MethodName) prog_6_method_6_code (3 : Nat) (Option.some Jvm.ClassFile.FieldType.boolean)) : Cond) ∈ wq_all := List.mem_of_getElem? (i := 546) (by decide +kernel)
set_option maxRecDepth 20000 in
theorem wk_547 : ((Jvm.Cond.methodLink "WorkspaceBox$Processor" (76 : Nat) ({ cls := "WorkspaceBox$Processor", name := "nextWord", desc := "()I" } : Jvm.MethodName)) : Cond) ∈ wq_all := List.mem_of_getElem? (i := 547) (by decide +kernel)
set_option maxRecDepth 20000 in
theorem wk_548 : ((Jvm.Cond.instanceMethod ({ cls := "WorkspaceBox$Processor", name := "nextWord", desc := "()I" } : Jvm.MethodName)) : Cond) ∈ wq_all := List.mem_of_getElem? (i := 548) (by decide +kernel)
set_option maxRecDepth 20000 in
theorem wk_549 : ((Jvm.Cond.code ({ cls := "WorkspaceBox$Processor", name := "nextWord", desc := "()I" } : Jvm.MethodName) prog_6_method_10_code (2 : Nat) (Option.some Jvm.ClassFile.FieldType.int)) : Cond) ∈ wq_all := List.mem_of_getElem? (i := 549) (by decide +kernel)
set_option maxRecDepth 20000 in
theorem wk_550 : ((Jvm.Cond.methodLink "WorkspaceBox$Processor" (82 : Nat) ({ cls := "WorkspaceBox$Processor", name := "isNone", desc := "(I)Z" } : Jvm.MethodName)) : Cond) ∈ wq_all := List.mem_of_getElem? (i := 550) (by decide +kernel)
set_option maxRecDepth 20000 in
theorem wk_551 : ((Jvm.Cond.static ({ cls := "WorkspaceBox$Processor", name := "isNone", desc := "(I)Z" } : Jvm.MethodName)) : Cond) ∈ wq_all := List.mem_of_getElem? (i := 551) (by decide +kernel)
set_option maxRecDepth 20000 in
theorem wk_552 : ((Jvm.Cond.code ({ cls := "WorkspaceBox$Processor", name := "isNone", desc := "(I)Z" } : Jvm.MethodName) prog_6_method_8_code (1 : Nat) (Option.some Jvm.ClassFile.FieldType.boolean)) : Cond) ∈ wq_all := List.mem_of_getElem? (i := 552) (by decide +kernel)
set_option maxRecDepth 20000 in
theorem wk_553 : ((Jvm.Cond.methodLink "WorkspaceBox$Processor" (86 : Nat) ({ cls := "WorkspaceBox$Processor", name := "isExecute", desc := "(I)Z" } : Jvm.MethodName)) : Cond) ∈ wq_all := List.mem_of_getElem? (i := 553) (by decide +kernel)
set_option maxRecDepth 20000 in
theorem wk_554 : ((Jvm.Cond.static ({ cls := "WorkspaceBox$Processor", name := "isExecute", desc := "(I)Z" } : Jvm.MethodName)) : Cond) ∈ wq_all := List.mem_of_getElem? (i := 554) (by decide +kernel)
set_option maxRecDepth 20000 in
theorem wk_555 : ((Jvm.Cond.code ({ cls := "WorkspaceBox$Processor", name := "isExecute", desc := "(I)Z" } : Jvm.MethodName) prog_6_method_7_code (1 : Nat) (Option.some Jvm.ClassFile.FieldType.boolean)) : Cond) ∈ wq_all := List.mem_of_getElem? (i := 555) (by decide +kernel)
set_option maxRecDepth 20000 in
theorem wk_556 : ((Jvm.Cond.constant "WorkspaceBox$Processor" (93 : Nat) (65472 : Int32)) : Cond) ∈ wq_all := List.mem_of_getElem? (i := 556) (by decide +kernel)
set_option maxRecDepth 20000 in
theorem wk_557 : ((Jvm.Cond.methodLink "WorkspaceBox$Processor" (89 : Nat) ({ cls := "WorkspaceBox$Processor", name := "operandAddress", desc := "(IZ)I" } : Jvm.MethodName)) : Cond) ∈ wq_all := List.mem_of_getElem? (i := 557) (by decide +kernel)
set_option maxRecDepth 20000 in
theorem wk_558 : ((Jvm.Cond.instanceMethod ({ cls := "WorkspaceBox$Processor", name := "operandAddress", desc := "(IZ)I" } : Jvm.MethodName)) : Cond) ∈ wq_all := List.mem_of_getElem? (i := 558) (by decide +kernel)
set_option maxRecDepth 20000 in
theorem wk_559 : ((Jvm.Cond.code ({ cls := "WorkspaceBox$Processor", name := "operandAddress", desc := "(IZ)I" } : Jvm.MethodName) prog_6_method_12_code (6 : Nat) (Option.some Jvm.ClassFile.FieldType.int)) : Cond) ∈ wq_all := List.mem_of_getElem? (i := 559) (by decide +kernel)
set_option maxRecDepth 20000 in
theorem wk_560 : ((Jvm.Cond.methodLink "WorkspaceBox" (106 : Nat) ({ cls := "WorkspaceBox$Processor", name := "perform", desc := "()V" } : Jvm.MethodName)) : Cond) ∈ wq_all := List.mem_of_getElem? (i := 560) (by decide +kernel)
set_option maxRecDepth 20000 in
theorem wk_561 : ((Jvm.Cond.instanceMethod ({ cls := "WorkspaceBox$Processor", name := "perform", desc := "()V" } : Jvm.MethodName)) : Cond) ∈ wq_all := List.mem_of_getElem? (i := 561) (by decide +kernel)
set_option maxRecDepth 20000 in
theorem wk_562 : ((Jvm.Cond.selects "WorkspaceBox$Processor" ({ cls := "WorkspaceBox$Processor", name := "perform", desc := "()V" } : Jvm.MethodName) ({ cls := "WorkspaceBox$Processor", name := "perform", desc := "()V" } : Jvm.MethodName)) : Cond) ∈ wq_all := List.mem_of_getElem? (i := 562) (by decide +kernel)
set_option maxRecDepth 20000 in
theorem wk_563 : ((Jvm.Cond.code ({ cls := "WorkspaceBox$Processor", name := "perform", desc := "()V" } : Jvm.MethodName) prog_6_method_9_code (2 : Nat) (Option.none : Option Jvm.ClassFile.FieldType)) : Cond) ∈ wq_all := List.mem_of_getElem? (i := 563) (by decide +kernel)
set_option maxRecDepth 20000 in
theorem wk_564 : ((Jvm.Cond.methodLink "WorkspaceBox$Processor" (97 : Nat) ({ cls := "WorkspaceBox$Processor", name := "doImmediate", desc := "(I)V" } : Jvm.MethodName)) : Cond) ∈ wq_all := List.mem_of_getElem? (i := 564) (by decide +kernel)
set_option maxRecDepth 20000 in
theorem wk_565 : ((Jvm.Cond.instanceMethod ({ cls := "WorkspaceBox$Processor", name := "doImmediate", desc := "(I)V" } : Jvm.MethodName)) : Cond) ∈ wq_all := List.mem_of_getElem? (i := 565) (by decide +kernel)
set_option maxRecDepth 20000 in
theorem wk_566 : ((Jvm.Cond.code ({ cls := "WorkspaceBox$Processor", name := "doImmediate", desc := "(I)V" } : Jvm.MethodName) prog_6_method_19_code (7 : Nat) (Option.none : Option Jvm.ClassFile.FieldType)) : Cond) ∈ wq_all := List.mem_of_getElem? (i := 566) (by decide +kernel)
set_option maxRecDepth 20000 in
theorem wk_567 : ((Jvm.Cond.constant "WorkspaceBox$Processor" (149 : Nat) (65504 : Int32)) : Cond) ∈ wq_all := List.mem_of_getElem? (i := 567) (by decide +kernel)
set_option maxRecDepth 20000 in
theorem wk_568 : ((Jvm.Cond.methodLink "WorkspaceBox$Processor" (145 : Nat) ({ cls := "WorkspaceBox$Processor", name := "compare", desc := "(IIZ)V" } : Jvm.MethodName)) : Cond) ∈ wq_all := List.mem_of_getElem? (i := 568) (by decide +kernel)
set_option maxRecDepth 20000 in
theorem wk_569 : ((Jvm.Cond.instanceMethod ({ cls := "WorkspaceBox$Processor", name := "compare", desc := "(IIZ)V" } : Jvm.MethodName)) : Cond) ∈ wq_all := List.mem_of_getElem? (i := 569) (by decide +kernel)
set_option maxRecDepth 20000 in
theorem wk_570 : ((Jvm.Cond.code ({ cls := "WorkspaceBox$Processor", name := "compare", desc := "(IIZ)V" } : Jvm.MethodName) prog_6_method_15_code (6 : Nat) (Option.none : Option Jvm.ClassFile.FieldType)) : Cond) ∈ wq_all := List.mem_of_getElem? (i := 570) (by decide +kernel)
set_option maxRecDepth 20000 in
theorem wk_571 : ((Jvm.Cond.constant "WorkspaceBox$Processor" (135 : Nat) (32768 : Int32)) : Cond) ∈ wq_all := List.mem_of_getElem? (i := 571) (by decide +kernel)
set_option maxRecDepth 20000 in
theorem wk_572 : ((Jvm.Cond.methodLink "WorkspaceBox$Processor" (136 : Nat) ({ cls := "WorkspaceBox$Processor", name := "flag", desc := "(IZ)V" } : Jvm.MethodName)) : Cond) ∈ wq_all := List.mem_of_getElem? (i := 572) (by decide +kernel)
set_option maxRecDepth 20000 in
theorem wk_573 : ((Jvm.Cond.instanceMethod ({ cls := "WorkspaceBox$Processor", name := "flag", desc := "(IZ)V" } : Jvm.MethodName)) : Cond) ∈ wq_all := List.mem_of_getElem? (i := 573) (by decide +kernel)
set_option maxRecDepth 20000 in
theorem wk_574 : ((Jvm.Cond.code ({ cls := "WorkspaceBox$Processor", name := "flag", desc := "(IZ)V" } : Jvm.MethodName) prog_6_method_14_code (3 : Nat) (Option.none : Option Jvm.ClassFile.FieldType)) : Cond) ∈ wq_all := List.mem_of_getElem? (i := 574) (by decide +kernel)
set_option maxRecDepth 20000 in
theorem wk_575 : ((Jvm.Cond.methodLink "WorkspaceBox$Processor" (150 : Nat) ({ cls := "WorkspaceBox$Processor", name := "add", desc := "(IIZ)I" } : Jvm.MethodName)) : Cond) ∈ wq_all := List.mem_of_getElem? (i := 575) (by decide +kernel)
set_option maxRecDepth 20000 in
theorem wk_576 : ((Jvm.Cond.instanceMethod ({ cls := "WorkspaceBox$Processor", name := "add", desc := "(IIZ)I" } : Jvm.MethodName)) : Cond) ∈ wq_all := List.mem_of_getElem? (i := 576) (by decide +kernel)
set_option maxRecDepth 20000 in
theorem wk_577 : ((Jvm.Cond.code ({ cls := "WorkspaceBox$Processor", name := "add", desc := "(IIZ)I" } : Jvm.MethodName) prog_6_method_17_code (8 : Nat) (Option.some Jvm.ClassFile.FieldType.int)) : Cond) ∈ wq_all := List.mem_of_getElem? (i := 577) (by decide +kernel)
set_option maxRecDepth 20000 in
theorem wk_578 : ((Jvm.Cond.methodLink "WorkspaceBox$Processor" (100 : Nat) ({ cls := "WorkspaceBox$Processor", name := "doControl", desc := "(I)V" } : Jvm.MethodName)) : Cond) ∈ wq_all := List.mem_of_getElem? (i := 578) (by decide +kernel)
set_option maxRecDepth 20000 in
theorem wk_579 : ((Jvm.Cond.instanceMethod ({ cls := "WorkspaceBox$Processor", name := "doControl", desc := "(I)V" } : Jvm.MethodName)) : Cond) ∈ wq_all := List.mem_of_getElem? (i := 579) (by decide +kernel)
set_option maxRecDepth 20000 in
theorem wk_580 : ((Jvm.Cond.code ({ cls := "WorkspaceBox$Processor", name := "doControl", desc := "(I)V" } : Jvm.MethodName) prog_6_method_20_code (2 : Nat) (Option.none : Option Jvm.ClassFile.FieldType)) : Cond) ∈ wq_all := List.mem_of_getElem? (i := 580) (by decide +kernel)
set_option maxRecDepth 20000 in
theorem wk_581 : ((Jvm.Cond.methodLink "WorkspaceBox$Processor" (154 : Nat) ({ cls := "WorkspaceBox$Processor", name := "giveBack", desc := "()V" } : Jvm.MethodName)) : Cond) ∈ wq_all := List.mem_of_getElem? (i := 581) (by decide +kernel)
set_option maxRecDepth 20000 in
theorem wk_582 : ((Jvm.Cond.instanceMethod ({ cls := "WorkspaceBox$Processor", name := "giveBack", desc := "()V" } : Jvm.MethodName)) : Cond) ∈ wq_all := List.mem_of_getElem? (i := 582) (by decide +kernel)
set_option maxRecDepth 20000 in
theorem wk_583 : ((Jvm.Cond.code ({ cls := "WorkspaceBox$Processor", name := "giveBack", desc := "()V" } : Jvm.MethodName) prog_6_method_21_code (4 : Nat) (Option.none : Option Jvm.ClassFile.FieldType)) : Cond) ∈ wq_all := List.mem_of_getElem? (i := 583) (by decide +kernel)
set_option maxRecDepth 20000 in
theorem wk_584 : ((Jvm.Cond.constant "WorkspaceBox$Processor" (157 : Nat) (65039 : Int32)) : Cond) ∈ wq_all := List.mem_of_getElem? (i := 584) (by decide +kernel)
set_option maxRecDepth 20000 in
theorem wk_585 : ((Jvm.Cond.methodLink "WorkspaceBox$Processor" (103 : Nat) ({ cls := "WorkspaceBox$Processor", name := "doOneOperand", desc := "(I)V" } : Jvm.MethodName)) : Cond) ∈ wq_all := List.mem_of_getElem? (i := 585) (by decide +kernel)
set_option maxRecDepth 20000 in
theorem wk_586 : ((Jvm.Cond.instanceMethod ({ cls := "WorkspaceBox$Processor", name := "doOneOperand", desc := "(I)V" } : Jvm.MethodName)) : Cond) ∈ wq_all := List.mem_of_getElem? (i := 586) (by decide +kernel)
set_option maxRecDepth 20000 in
theorem wk_587 : ((Jvm.Cond.code ({ cls := "WorkspaceBox$Processor", name := "doOneOperand", desc := "(I)V" } : Jvm.MethodName) prog_6_method_22_code (4 : Nat) (Option.none : Option Jvm.ClassFile.FieldType)) : Cond) ∈ wq_all := List.mem_of_getElem? (i := 587) (by decide +kernel)
set_option maxRecDepth 20000 in
theorem wk_588 : ((Jvm.Cond.methodLink "WorkspaceBox$Processor" (158 : Nat) ({ cls := "WorkspaceBox$Processor", name := "changed", desc := "(II)I" } : Jvm.MethodName)) : Cond) ∈ wq_all := List.mem_of_getElem? (i := 588) (by decide +kernel)
set_option maxRecDepth 20000 in
theorem wk_589 : ((Jvm.Cond.instanceMethod ({ cls := "WorkspaceBox$Processor", name := "changed", desc := "(II)I" } : Jvm.MethodName)) : Cond) ∈ wq_all := List.mem_of_getElem? (i := 589) (by decide +kernel)
set_option maxRecDepth 20000 in
theorem wk_590 : ((Jvm.Cond.code ({ cls := "WorkspaceBox$Processor", name := "changed", desc := "(II)I" } : Jvm.MethodName) prog_6_method_23_code (3 : Nat) (Option.some Jvm.ClassFile.FieldType.int)) : Cond) ∈ wq_all := List.mem_of_getElem? (i := 590) (by decide +kernel)
set_option maxRecDepth 20000 in
theorem wk_591 : ((Jvm.Cond.methodLink "WorkspaceBox$Processor" (162 : Nat) ({ cls := "WorkspaceBox$Processor", name := "subtract", desc := "(IIZ)I" } : Jvm.MethodName)) : Cond) ∈ wq_all := List.mem_of_getElem? (i := 591) (by decide +kernel)
set_option maxRecDepth 20000 in
theorem wk_592 : ((Jvm.Cond.instanceMethod ({ cls := "WorkspaceBox$Processor", name := "subtract", desc := "(IIZ)I" } : Jvm.MethodName)) : Cond) ∈ wq_all := List.mem_of_getElem? (i := 592) (by decide +kernel)
set_option maxRecDepth 20000 in
theorem wk_593 : ((Jvm.Cond.code ({ cls := "WorkspaceBox$Processor", name := "subtract", desc := "(IIZ)I" } : Jvm.MethodName) prog_6_method_18_code (7 : Nat) (Option.some Jvm.ClassFile.FieldType.int)) : Cond) ∈ wq_all := List.mem_of_getElem? (i := 593) (by decide +kernel)
set_option maxRecDepth 20000 in
theorem wk_594 : ((Jvm.Cond.methodLink "WorkspaceBox$Processor" (165 : Nat) ({ cls := "WorkspaceBox$Processor", name := "inverted", desc := "(I)I" } : Jvm.MethodName)) : Cond) ∈ wq_all := List.mem_of_getElem? (i := 594) (by decide +kernel)
set_option maxRecDepth 20000 in
theorem wk_595 : ((Jvm.Cond.instanceMethod ({ cls := "WorkspaceBox$Processor", name := "inverted", desc := "(I)I" } : Jvm.MethodName)) : Cond) ∈ wq_all := List.mem_of_getElem? (i := 595) (by decide +kernel)
set_option maxRecDepth 20000 in
theorem wk_596 : ((Jvm.Cond.code ({ cls := "WorkspaceBox$Processor", name := "inverted", desc := "(I)I" } : Jvm.MethodName) prog_6_method_24_code (3 : Nat) (Option.some Jvm.ClassFile.FieldType.int)) : Cond) ∈ wq_all := List.mem_of_getElem? (i := 596) (by decide +kernel)
set_option maxRecDepth 20000 in
theorem wk_597 : ((Jvm.Cond.methodLink "WorkspaceBox$Processor" (168 : Nat) ({ cls := "WorkspaceBox$Processor", name := "sizeOf", desc := "(I)I" } : Jvm.MethodName)) : Cond) ∈ wq_all := List.mem_of_getElem? (i := 597) (by decide +kernel)
set_option maxRecDepth 20000 in
theorem wk_598 : ((Jvm.Cond.instanceMethod ({ cls := "WorkspaceBox$Processor", name := "sizeOf", desc := "(I)I" } : Jvm.MethodName)) : Cond) ∈ wq_all := List.mem_of_getElem? (i := 598) (by decide +kernel)
set_option maxRecDepth 20000 in
theorem wk_599 : ((Jvm.Cond.code ({ cls := "WorkspaceBox$Processor", name := "sizeOf", desc := "(I)I" } : Jvm.MethodName) prog_6_method_25_code (2 : Nat) (Option.some Jvm.ClassFile.FieldType.int)) : Cond) ∈ wq_all := List.mem_of_getElem? (i := 599) (by decide +kernel)
set_option maxRecDepth 20000 in
theorem wk_600 : ((Jvm.Cond.methodLink "WorkspaceBox$Processor" (106 : Nat) ({ cls := "WorkspaceBox$Processor", name := "doShift", desc := "(I)V" } : Jvm.MethodName)) : Cond) ∈ wq_all := List.mem_of_getElem? (i := 600) (by decide +kernel)
set_option maxRecDepth 20000 in
theorem wk_601 : ((Jvm.Cond.instanceMethod ({ cls := "WorkspaceBox$Processor", name := "doShift", desc := "(I)V" } : Jvm.MethodName)) : Cond) ∈ wq_all := List.mem_of_getElem? (i := 601) (by decide +kernel)
set_option maxRecDepth 20000 in
theorem wk_602 : ((Jvm.Cond.code ({ cls := "WorkspaceBox$Processor", name := "doShift", desc := "(I)V" } : Jvm.MethodName) prog_6_method_26_code (10 : Nat) (Option.none : Option Jvm.ClassFile.FieldType)) : Cond) ∈ wq_all := List.mem_of_getElem? (i := 602) (by decide +kernel)
set_option maxRecDepth 20000 in
theorem wk_603 : ((Jvm.Cond.constant "WorkspaceBox$Processor" (171 : Nat) (65280 : Int32)) : Cond) ∈ wq_all := List.mem_of_getElem? (i := 603) (by decide +kernel)
set_option maxRecDepth 20000 in
theorem wk_604 : ((Jvm.Cond.methodLink "WorkspaceBox$Processor" (172 : Nat) ({ cls := "WorkspaceBox$Processor", name := "shifted", desc := "(II)I" } : Jvm.MethodName)) : Cond) ∈ wq_all := List.mem_of_getElem? (i := 604) (by decide +kernel)
set_option maxRecDepth 20000 in
theorem wk_605 : ((Jvm.Cond.static ({ cls := "WorkspaceBox$Processor", name := "shifted", desc := "(II)I" } : Jvm.MethodName)) : Cond) ∈ wq_all := List.mem_of_getElem? (i := 605) (by decide +kernel)
set_option maxRecDepth 20000 in
theorem wk_606 : ((Jvm.Cond.code ({ cls := "WorkspaceBox$Processor", name := "shifted", desc := "(II)I" } : Jvm.MethodName) prog_6_method_27_code (2 : Nat) (Option.some Jvm.ClassFile.FieldType.int)) : Cond) ∈ wq_all := List.mem_of_getElem? (i := 606) (by decide +kernel)
set_option maxRecDepth 20000 in
theorem wk_607 : ((Jvm.Cond.methodLink "WorkspaceBox$Processor" (109 : Nat) ({ cls := "WorkspaceBox$Processor", name := "doJump", desc := "(I)V" } : Jvm.MethodName)) : Cond) ∈ wq_all := List.mem_of_getElem? (i := 607) (by decide +kernel)
set_option maxRecDepth 20000 in
theorem wk_608 : ((Jvm.Cond.instanceMethod ({ cls := "WorkspaceBox$Processor", name := "doJump", desc := "(I)V" } : Jvm.MethodName)) : Cond) ∈ wq_all := List.mem_of_getElem? (i := 608) (by decide +kernel)
set_option maxRecDepth 20000 in
theorem wk_609 : ((Jvm.Cond.code ({ cls := "WorkspaceBox$Processor", name := "doJump", desc := "(I)V" } : Jvm.MethodName) prog_6_method_28_code (2 : Nat) (Option.none : Option Jvm.ClassFile.FieldType)) : Cond) ∈ wq_all := List.mem_of_getElem? (i := 609) (by decide +kernel)
set_option maxRecDepth 20000 in
theorem wk_610 : ((Jvm.Cond.methodLink "WorkspaceBox$Processor" (175 : Nat) ({ cls := "WorkspaceBox$Processor", name := "jumps", desc := "(I)Z" } : Jvm.MethodName)) : Cond) ∈ wq_all := List.mem_of_getElem? (i := 610) (by decide +kernel)
set_option maxRecDepth 20000 in
theorem wk_611 : ((Jvm.Cond.instanceMethod ({ cls := "WorkspaceBox$Processor", name := "jumps", desc := "(I)Z" } : Jvm.MethodName)) : Cond) ∈ wq_all := List.mem_of_getElem? (i := 611) (by decide +kernel)
set_option maxRecDepth 20000 in
theorem wk_612 : ((Jvm.Cond.code ({ cls := "WorkspaceBox$Processor", name := "jumps", desc := "(I)Z" } : Jvm.MethodName) prog_6_method_29_code (5 : Nat) (Option.some Jvm.ClassFile.FieldType.boolean)) : Cond) ∈ wq_all := List.mem_of_getElem? (i := 612) (by decide +kernel)
set_option maxRecDepth 20000 in
theorem wk_613 : ((Jvm.Cond.methodLink "WorkspaceBox$Processor" (112 : Nat) ({ cls := "WorkspaceBox$Processor", name := "doSingleBit", desc := "(I)V" } : Jvm.MethodName)) : Cond) ∈ wq_all := List.mem_of_getElem? (i := 613) (by decide +kernel)
set_option maxRecDepth 20000 in
theorem wk_614 : ((Jvm.Cond.instanceMethod ({ cls := "WorkspaceBox$Processor", name := "doSingleBit", desc := "(I)V" } : Jvm.MethodName)) : Cond) ∈ wq_all := List.mem_of_getElem? (i := 614) (by decide +kernel)
set_option maxRecDepth 20000 in
theorem wk_615 : ((Jvm.Cond.code ({ cls := "WorkspaceBox$Processor", name := "doSingleBit", desc := "(I)V" } : Jvm.MethodName) prog_6_method_31_code (3 : Nat) (Option.none : Option Jvm.ClassFile.FieldType)) : Cond) ∈ wq_all := List.mem_of_getElem? (i := 615) (by decide +kernel)
set_option maxRecDepth 20000 in
theorem wk_616 : ((Jvm.Cond.methodLink "WorkspaceBox$Processor" (178 : Nat) ({ cls := "WorkspaceBox$Processor", name := "baseBit", desc := "()I" } : Jvm.MethodName)) : Cond) ∈ wq_all := List.mem_of_getElem? (i := 616) (by decide +kernel)
set_option maxRecDepth 20000 in
theorem wk_617 : ((Jvm.Cond.instanceMethod ({ cls := "WorkspaceBox$Processor", name := "baseBit", desc := "()I" } : Jvm.MethodName)) : Cond) ∈ wq_all := List.mem_of_getElem? (i := 617) (by decide +kernel)
set_option maxRecDepth 20000 in
theorem wk_618 : ((Jvm.Cond.code ({ cls := "WorkspaceBox$Processor", name := "baseBit", desc := "()I" } : Jvm.MethodName) prog_6_method_30_code (1 : Nat) (Option.some Jvm.ClassFile.FieldType.int)) : Cond) ∈ wq_all := List.mem_of_getElem? (i := 618) (by decide +kernel)
set_option maxRecDepth 20000 in
theorem wk_619 : ((Jvm.Cond.methodLink "WorkspaceBox$Processor" (181 : Nat) ({ cls := "WorkspaceBox$Wires", name := "send", desc := "(II)V" } : Jvm.MethodName)) : Cond) ∈ wq_all := List.mem_of_getElem? (i := 619) (by decide +kernel)
set_option maxRecDepth 20000 in
theorem wk_620 : ((Jvm.Cond.instanceMethod ({ cls := "WorkspaceBox$Wires", name := "send", desc := "(II)V" } : Jvm.MethodName)) : Cond) ∈ wq_all := List.mem_of_getElem? (i := 620) (by decide +kernel)
set_option maxRecDepth 20000 in
theorem wk_621 : ((Jvm.Cond.selects "WorkspaceBox$Wires" ({ cls := "WorkspaceBox$Wires", name := "send", desc := "(II)V" } : Jvm.MethodName) ({ cls := "WorkspaceBox$Wires", name := "send", desc := "(II)V" } : Jvm.MethodName)) : Cond) ∈ wq_all := List.mem_of_getElem? (i := 621) (by decide +kernel)
set_option maxRecDepth 20000 in
theorem wk_622 : ((Jvm.Cond.code ({ cls := "WorkspaceBox$Wires", name := "send", desc := "(II)V" } : Jvm.MethodName) prog_7_method_4_code (6 : Nat) (Option.none : Option Jvm.ClassFile.FieldType)) : Cond) ∈ wq_all := List.mem_of_getElem? (i := 622) (by decide +kernel)
set_option maxRecDepth 20000 in
theorem wk_623 : ((Jvm.Cond.methodLink "WorkspaceBox$Processor" (184 : Nat) ({ cls := "WorkspaceBox$Wires", name := "coming", desc := "(I)I" } : Jvm.MethodName)) : Cond) ∈ wq_all := List.mem_of_getElem? (i := 623) (by decide +kernel)
set_option maxRecDepth 20000 in
theorem wk_624 : ((Jvm.Cond.methodLink "WorkspaceBox$Processor" (115 : Nat) ({ cls := "WorkspaceBox$Processor", name := "doWithRegister", desc := "(I)V" } : Jvm.MethodName)) : Cond) ∈ wq_all := List.mem_of_getElem? (i := 624) (by decide +kernel)
set_option maxRecDepth 20000 in
theorem wk_625 : ((Jvm.Cond.instanceMethod ({ cls := "WorkspaceBox$Processor", name := "doWithRegister", desc := "(I)V" } : Jvm.MethodName)) : Cond) ∈ wq_all := List.mem_of_getElem? (i := 625) (by decide +kernel)
set_option maxRecDepth 20000 in
theorem wk_626 : ((Jvm.Cond.code ({ cls := "WorkspaceBox$Processor", name := "doWithRegister", desc := "(I)V" } : Jvm.MethodName) prog_6_method_36_code (8 : Nat) (Option.none : Option Jvm.ClassFile.FieldType)) : Cond) ∈ wq_all := List.mem_of_getElem? (i := 626) (by decide +kernel)
set_option maxRecDepth 20000 in
theorem wk_627 : ((Jvm.Cond.constant "WorkspaceBox$Processor" (206 : Nat) (64512 : Int32)) : Cond) ∈ wq_all := List.mem_of_getElem? (i := 627) (by decide +kernel)
set_option maxRecDepth 20000 in
theorem wk_628 : ((Jvm.Cond.methodLink "WorkspaceBox$Processor" (118 : Nat) ({ cls := "WorkspaceBox$Processor", name := "doManyBits", desc := "(I)V" } : Jvm.MethodName)) : Cond) ∈ wq_all := List.mem_of_getElem? (i := 628) (by decide +kernel)
set_option maxRecDepth 20000 in
theorem wk_629 : ((Jvm.Cond.instanceMethod ({ cls := "WorkspaceBox$Processor", name := "doManyBits", desc := "(I)V" } : Jvm.MethodName)) : Cond) ∈ wq_all := List.mem_of_getElem? (i := 629) (by decide +kernel)
set_option maxRecDepth 20000 in
theorem wk_630 : ((Jvm.Cond.code ({ cls := "WorkspaceBox$Processor", name := "doManyBits", desc := "(I)V" } : Jvm.MethodName) prog_6_method_32_code (7 : Nat) (Option.none : Option Jvm.ClassFile.FieldType)) : Cond) ∈ wq_all := List.mem_of_getElem? (i := 630) (by decide +kernel)
set_option maxRecDepth 20000 in
theorem wk_631 : ((Jvm.Cond.methodLink "WorkspaceBox$Processor" (187 : Nat) ({ cls := "WorkspaceBox$Memory", name := "byteAt", desc := "(I)I" } : Jvm.MethodName)) : Cond) ∈ wq_all := List.mem_of_getElem? (i := 631) (by decide +kernel)
set_option maxRecDepth 20000 in
theorem wk_632 : ((Jvm.Cond.methodLink "WorkspaceBox$Processor" (190 : Nat) ({ cls := "WorkspaceBox$Processor", name := "sendBits", desc := "(III)V" } : Jvm.MethodName)) : Cond) ∈ wq_all := List.mem_of_getElem? (i := 632) (by decide +kernel)
set_option maxRecDepth 20000 in
theorem wk_633 : ((Jvm.Cond.instanceMethod ({ cls := "WorkspaceBox$Processor", name := "sendBits", desc := "(III)V" } : Jvm.MethodName)) : Cond) ∈ wq_all := List.mem_of_getElem? (i := 633) (by decide +kernel)
set_option maxRecDepth 20000 in
theorem wk_634 : ((Jvm.Cond.code ({ cls := "WorkspaceBox$Processor", name := "sendBits", desc := "(III)V" } : Jvm.MethodName) prog_6_method_33_code (5 : Nat) (Option.none : Option Jvm.ClassFile.FieldType)) : Cond) ∈ wq_all := List.mem_of_getElem? (i := 634) (by decide +kernel)
set_option maxRecDepth 20000 in
theorem wk_635 : ((Jvm.Cond.methodLink "WorkspaceBox$Processor" (194 : Nat) ({ cls := "WorkspaceBox$Processor", name := "comingBits", desc := "(II)I" } : Jvm.MethodName)) : Cond) ∈ wq_all := List.mem_of_getElem? (i := 635) (by decide +kernel)
set_option maxRecDepth 20000 in
theorem wk_636 : ((Jvm.Cond.instanceMethod ({ cls := "WorkspaceBox$Processor", name := "comingBits", desc := "(II)I" } : Jvm.MethodName)) : Cond) ∈ wq_all := List.mem_of_getElem? (i := 636) (by decide +kernel)
set_option maxRecDepth 20000 in
theorem wk_637 : ((Jvm.Cond.code ({ cls := "WorkspaceBox$Processor", name := "comingBits", desc := "(II)I" } : Jvm.MethodName) prog_6_method_34_code (5 : Nat) (Option.some Jvm.ClassFile.FieldType.int)) : Cond) ∈ wq_all := List.mem_of_getElem? (i := 637) (by decide +kernel)
set_option maxRecDepth 20000 in
theorem wk_638 : ((Jvm.Cond.methodLink "WorkspaceBox$Processor" (197 : Nat) ({ cls := "WorkspaceBox$Processor", name := "parity", desc := "(I)V" } : Jvm.MethodName)) : Cond) ∈ wq_all := List.mem_of_getElem? (i := 638) (by decide +kernel)
set_option maxRecDepth 20000 in
theorem wk_639 : ((Jvm.Cond.instanceMethod ({ cls := "WorkspaceBox$Processor", name := "parity", desc := "(I)V" } : Jvm.MethodName)) : Cond) ∈ wq_all := List.mem_of_getElem? (i := 639) (by decide +kernel)
set_option maxRecDepth 20000 in
theorem wk_640 : ((Jvm.Cond.code ({ cls := "WorkspaceBox$Processor", name := "parity", desc := "(I)V" } : Jvm.MethodName) prog_6_method_16_code (2 : Nat) (Option.none : Option Jvm.ClassFile.FieldType)) : Cond) ∈ wq_all := List.mem_of_getElem? (i := 640) (by decide +kernel)
set_option maxRecDepth 20000 in
theorem wk_641 : ((Jvm.Cond.methodLink "WorkspaceBox$Processor" (140 : Nat) ({ cls := "java/lang/Integer", name := "bitCount", desc := "(I)I" } : Jvm.MethodName)) : Cond) ∈ wq_all := List.mem_of_getElem? (i := 641) (by decide +kernel)
set_option maxRecDepth 20000 in
theorem wk_642 : ((Jvm.Cond.static ({ cls := "java/lang/Integer", name := "bitCount", desc := "(I)I" } : Jvm.MethodName)) : Cond) ∈ wq_all := List.mem_of_getElem? (i := 642) (by decide +kernel)
set_option maxRecDepth 20000 in
theorem wk_643 : ((Jvm.Cond.code ({ cls := "java/lang/Integer", name := "bitCount", desc := "(I)I" } : Jvm.MethodName) prog_12_method_49_code (1 : Nat) (Option.some Jvm.ClassFile.FieldType.int)) : Cond) ∈ wq_all := List.mem_of_getElem? (i := 643) (by decide +kernel)
set_option maxRecDepth 20000 in
theorem wk_644 : ((Jvm.Cond.constant "java/lang/Integer" (265 : Nat) (1431655765 : Int32)) : Cond) ∈ wq_all := List.mem_of_getElem? (i := 644) (by decide +kernel)
set_option maxRecDepth 20000 in
theorem wk_645 : ((Jvm.Cond.constant "java/lang/Integer" (266 : Nat) (858993459 : Int32)) : Cond) ∈ wq_all := List.mem_of_getElem? (i := 645) (by decide +kernel)
set_option maxRecDepth 20000 in
theorem wk_646 : ((Jvm.Cond.constant "java/lang/Integer" (267 : Nat) (252645135 : Int32)) : Cond) ∈ wq_all := List.mem_of_getElem? (i := 646) (by decide +kernel)
set_option maxRecDepth 20000 in
theorem wk_647 : ((Jvm.Cond.methodLink "WorkspaceBox$Processor" (200 : Nat) ({ cls := "WorkspaceBox$Processor", name := "putOperand", desc := "(IIZ)V" } : Jvm.MethodName)) : Cond) ∈ wq_all := List.mem_of_getElem? (i := 647) (by decide +kernel)
set_option maxRecDepth 20000 in
theorem wk_648 : ((Jvm.Cond.instanceMethod ({ cls := "WorkspaceBox$Processor", name := "putOperand", desc := "(IIZ)V" } : Jvm.MethodName)) : Cond) ∈ wq_all := List.mem_of_getElem? (i := 648) (by decide +kernel)
set_option maxRecDepth 20000 in
theorem wk_649 : ((Jvm.Cond.code ({ cls := "WorkspaceBox$Processor", name := "putOperand", desc := "(IIZ)V" } : Jvm.MethodName) prog_6_method_35_code (4 : Nat) (Option.none : Option Jvm.ClassFile.FieldType)) : Cond) ∈ wq_all := List.mem_of_getElem? (i := 649) (by decide +kernel)
set_option maxRecDepth 20000 in
theorem wk_650 : ((Jvm.Cond.methodLink "WorkspaceBox$Processor" (203 : Nat) ({ cls := "WorkspaceBox$Memory", name := "putByte", desc := "(II)V" } : Jvm.MethodName)) : Cond) ∈ wq_all := List.mem_of_getElem? (i := 650) (by decide +kernel)
set_option maxRecDepth 20000 in
theorem wk_651 : ((Jvm.Cond.methodLink "WorkspaceBox$Processor" (121 : Nat) ({ cls := "WorkspaceBox$Processor", name := "doLongArithmetic", desc := "(I)V" } : Jvm.MethodName)) : Cond) ∈ wq_all := List.mem_of_getElem? (i := 651) (by decide +kernel)
set_option maxRecDepth 20000 in
theorem wk_652 : ((Jvm.Cond.instanceMethod ({ cls := "WorkspaceBox$Processor", name := "doLongArithmetic", desc := "(I)V" } : Jvm.MethodName)) : Cond) ∈ wq_all := List.mem_of_getElem? (i := 652) (by decide +kernel)
set_option maxRecDepth 20000 in
theorem wk_653 : ((Jvm.Cond.code ({ cls := "WorkspaceBox$Processor", name := "doLongArithmetic", desc := "(I)V" } : Jvm.MethodName) prog_6_method_37_code (6 : Nat) (Option.none : Option Jvm.ClassFile.FieldType)) : Cond) ∈ wq_all := List.mem_of_getElem? (i := 653) (by decide +kernel)
set_option maxRecDepth 20000 in
theorem wk_654 : ((Jvm.Cond.methodLink "WorkspaceBox$Processor" (207 : Nat) ({ cls := "WorkspaceBox$Processor", name := "divide", desc := "(III)V" } : Jvm.MethodName)) : Cond) ∈ wq_all := List.mem_of_getElem? (i := 654) (by decide +kernel)
set_option maxRecDepth 20000 in
theorem wk_655 : ((Jvm.Cond.instanceMethod ({ cls := "WorkspaceBox$Processor", name := "divide", desc := "(III)V" } : Jvm.MethodName)) : Cond) ∈ wq_all := List.mem_of_getElem? (i := 655) (by decide +kernel)
set_option maxRecDepth 20000 in
theorem wk_656 : ((Jvm.Cond.code ({ cls := "WorkspaceBox$Processor", name := "divide", desc := "(III)V" } : Jvm.MethodName) prog_6_method_38_code (6 : Nat) (Option.none : Option Jvm.ClassFile.FieldType)) : Cond) ∈ wq_all := List.mem_of_getElem? (i := 656) (by decide +kernel)
set_option maxRecDepth 20000 in
theorem wk_657 : ((Jvm.Cond.methodLink "WorkspaceBox$Processor" (124 : Nat) ({ cls := "WorkspaceBox$Processor", name := "doTwoOperands", desc := "(I)V" } : Jvm.MethodName)) : Cond) ∈ wq_all := List.mem_of_getElem? (i := 657) (by decide +kernel)
set_option maxRecDepth 20000 in
theorem wk_658 : ((Jvm.Cond.instanceMethod ({ cls := "WorkspaceBox$Processor", name := "doTwoOperands", desc := "(I)V" } : Jvm.MethodName)) : Cond) ∈ wq_all := List.mem_of_getElem? (i := 658) (by decide +kernel)
set_option maxRecDepth 20000 in
theorem wk_659 : ((Jvm.Cond.code ({ cls := "WorkspaceBox$Processor", name := "doTwoOperands", desc := "(I)V" } : Jvm.MethodName) prog_6_method_39_code (9 : Nat) (Option.none : Option Jvm.ClassFile.FieldType)) : Cond) ∈ wq_all := List.mem_of_getElem? (i := 659) (by decide +kernel)
set_option maxRecDepth 20000 in
theorem wk_660 : ((Jvm.Cond.constant "WorkspaceBox$Processor" (210 : Nat) (57344 : Int32)) : Cond) ∈ wq_all := List.mem_of_getElem? (i := 660) (by decide +kernel)
set_option maxRecDepth 20000 in
theorem wk_661 : ((Jvm.Cond.methodLink "WorkspaceBox$Processor" (211 : Nat) ({ cls := "WorkspaceBox$Processor", name := "combined", desc := "(IIIZ)I" } : Jvm.MethodName)) : Cond) ∈ wq_all := List.mem_of_getElem? (i := 661) (by decide +kernel)
set_option maxRecDepth 20000 in
theorem wk_662 : ((Jvm.Cond.instanceMethod ({ cls := "WorkspaceBox$Processor", name := "combined", desc := "(IIIZ)I" } : Jvm.MethodName)) : Cond) ∈ wq_all := List.mem_of_getElem? (i := 662) (by decide +kernel)
set_option maxRecDepth 20000 in
theorem wk_663 : ((Jvm.Cond.code ({ cls := "WorkspaceBox$Processor", name := "combined", desc := "(IIIZ)I" } : Jvm.MethodName) prog_6_method_40_code (6 : Nat) (Option.some Jvm.ClassFile.FieldType.int)) : Cond) ∈ wq_all := List.mem_of_getElem? (i := 663) (by decide +kernel)
set_option maxRecDepth 20000 in
theorem wk_668 : ((Jvm.Cond.methodLink "WorkspaceBoxLaw" (15 : Nat) ({ cls := "WorkspaceBox", name := "vram", desc := "(I)I" } : Jvm.MethodName)) : Cond) ∈ wq_all := List.mem_of_getElem? (i := 668) (by decide +kernel)
set_option maxRecDepth 20000 in
theorem wk_669 : ((Jvm.Cond.instanceMethod ({ cls := "WorkspaceBox", name := "vram", desc := "(I)I" } : Jvm.MethodName)) : Cond) ∈ wq_all := List.mem_of_getElem? (i := 669) (by decide +kernel)
set_option maxRecDepth 20000 in
theorem wk_670 : ((Jvm.Cond.selects "WorkspaceBox" ({ cls := "WorkspaceBox", name := "vram", desc := "(I)I" } : Jvm.MethodName) ({ cls := "WorkspaceBox", name := "vram", desc := "(I)I" } : Jvm.MethodName)) : Cond) ∈ wq_all := List.mem_of_getElem? (i := 670) (by decide +kernel)
set_option maxRecDepth 20000 in
theorem wk_671 : ((Jvm.Cond.code ({ cls := "WorkspaceBox", name := "vram", desc := "(I)I" } : Jvm.MethodName) prog_1_method_14_code (2 : Nat) (Option.some Jvm.ClassFile.FieldType.int)) : Cond) ∈ wq_all := List.mem_of_getElem? (i := 671) (by decide +kernel)
set_option maxRecDepth 20000 in
theorem wk_692 : ((Jvm.Cond.constant "WorkspaceBoxModel" (13 : Nat) (65536 : Int32)) : Cond) ∈ wq_all := List.mem_of_getElem? (i := 692) (by decide +kernel)
set_option maxRecDepth 20000 in
theorem wk_693 : ((Jvm.Cond.fieldLink "WorkspaceBoxModel" (44 : Nat) "WorkspaceBoxModel" "thrown" "I") : Cond) ∈ wq_all := List.mem_of_getElem? (i := 693) (by decide +kernel)
set_option maxRecDepth 20000 in
theorem wk_694 : ((Jvm.Cond.fieldLink "WorkspaceBoxModel" (7 : Nat) "WorkspaceBoxModel" "rom" "[B") : Cond) ∈ wq_all := List.mem_of_getElem? (i := 694) (by decide +kernel)
set_option maxRecDepth 20000 in
theorem wk_695 : ((Jvm.Cond.fieldLink "WorkspaceBoxModel" (14 : Nat) "WorkspaceBoxModel" "ram" "[B") : Cond) ∈ wq_all := List.mem_of_getElem? (i := 695) (by decide +kernel)
set_option maxRecDepth 20000 in
theorem wk_696 : ((Jvm.Cond.fieldLink "WorkspaceBoxModel" (17 : Nat) "WorkspaceBoxModel" "vram" "[B") : Cond) ∈ wq_all := List.mem_of_getElem? (i := 696) (by decide +kernel)
set_option maxRecDepth 20000 in
theorem wk_697 : ((Jvm.Cond.fieldLink "WorkspaceBoxModel" (20 : Nat) "WorkspaceBoxModel" "groms" "[B") : Cond) ∈ wq_all := List.mem_of_getElem? (i := 697) (by decide +kernel)
set_option maxRecDepth 20000 in
theorem wk_698 : ((Jvm.Cond.fieldLink "WorkspaceBoxModel" (80 : Nat) "WorkspaceBoxModel" "pictureAt" "I") : Cond) ∈ wq_all := List.mem_of_getElem? (i := 698) (by decide +kernel)
set_option maxRecDepth 20000 in
theorem wk_699 : ((Jvm.Cond.fieldLink "WorkspaceBoxModel" (83 : Nat) "WorkspaceBoxModel" "pictureBuffer" "I") : Cond) ∈ wq_all := List.mem_of_getElem? (i := 699) (by decide +kernel)
set_option maxRecDepth 20000 in
theorem wk_700 : ((Jvm.Cond.fieldLink "WorkspaceBoxModel" (112 : Nat) "WorkspaceBoxModel" "pictureLatch" "I") : Cond) ∈ wq_all := List.mem_of_getElem? (i := 700) (by decide +kernel)
set_option maxRecDepth 20000 in
theorem wk_701 : ((Jvm.Cond.fieldLink "WorkspaceBoxModel" (95 : Nat) "WorkspaceBoxModel" "pictureFull" "Z") : Cond) ∈ wq_all := List.mem_of_getElem? (i := 701) (by decide +kernel)
set_option maxRecDepth 20000 in
theorem wk_702 : ((Jvm.Cond.fieldLink "WorkspaceBoxModel" (99 : Nat) "WorkspaceBoxModel" "shown" "Z") : Cond) ∈ wq_all := List.mem_of_getElem? (i := 702) (by decide +kernel)
set_option maxRecDepth 20000 in
theorem wk_703 : ((Jvm.Cond.fieldLink "WorkspaceBoxModel" (23 : Nat) "WorkspaceBoxModel" "pictures" "[I") : Cond) ∈ wq_all := List.mem_of_getElem? (i := 703) (by decide +kernel)
set_option maxRecDepth 20000 in
theorem wk_704 : ((Jvm.Cond.fieldLink "WorkspaceBoxModel" (86 : Nat) "WorkspaceBoxModel" "gromAt" "I") : Cond) ∈ wq_all := List.mem_of_getElem? (i := 704) (by decide +kernel)
set_option maxRecDepth 20000 in
theorem wk_705 : ((Jvm.Cond.fieldLink "WorkspaceBoxModel" (89 : Nat) "WorkspaceBoxModel" "gromBuffer" "I") : Cond) ∈ wq_all := List.mem_of_getElem? (i := 705) (by decide +kernel)
set_option maxRecDepth 20000 in
theorem wk_706 : ((Jvm.Cond.fieldLink "WorkspaceBoxModel" (105 : Nat) "WorkspaceBoxModel" "gromFull" "Z") : Cond) ∈ wq_all := List.mem_of_getElem? (i := 706) (by decide +kernel)
set_option maxRecDepth 20000 in
theorem wk_707 : ((Jvm.Cond.fieldLink "WorkspaceBoxModel" (27 : Nat) "WorkspaceBoxModel" "outs" "[Z") : Cond) ∈ wq_all := List.mem_of_getElem? (i := 707) (by decide +kernel)
set_option maxRecDepth 20000 in
theorem wk_708 : ((Jvm.Cond.fieldLink "WorkspaceBoxModel" (31 : Nat) "WorkspaceBoxModel" "keys" "[Z") : Cond) ∈ wq_all := List.mem_of_getElem? (i := 708) (by decide +kernel)
set_option maxRecDepth 20000 in
theorem wk_709 : ((Jvm.Cond.fieldLink "WorkspaceBoxModel" (128 : Nat) "WorkspaceBoxModel" "pc" "I") : Cond) ∈ wq_all := List.mem_of_getElem? (i := 709) (by decide +kernel)
set_option maxRecDepth 20000 in
theorem wk_710 : ((Jvm.Cond.fieldLink "WorkspaceBoxModel" (115 : Nat) "WorkspaceBoxModel" "wp" "I") : Cond) ∈ wq_all := List.mem_of_getElem? (i := 710) (by decide +kernel)
set_option maxRecDepth 20000 in
theorem wk_711 : ((Jvm.Cond.fieldLink "WorkspaceBoxModel" (131 : Nat) "WorkspaceBoxModel" "st" "I") : Cond) ∈ wq_all := List.mem_of_getElem? (i := 711) (by decide +kernel)
set_option maxRecDepth 20000 in
theorem wk_712 : ((Jvm.Cond.fieldLink "WorkspaceBoxModel" (34 : Nat) "WorkspaceBoxModel" "how" "I") : Cond) ∈ wq_all := List.mem_of_getElem? (i := 712) (by decide +kernel)
set_option maxRecDepth 20000 in
theorem wk_713 : ((Jvm.Cond.fieldLink "WorkspaceBoxModel" (242 : Nat) "WorkspaceBoxModel" "doneEver" "I") : Cond) ∈ wq_all := List.mem_of_getElem? (i := 713) (by decide +kernel)
set_option maxRecDepth 20000 in
theorem wk_714 : ((Jvm.Cond.fieldLink "WorkspaceBoxModel" (236 : Nat) "WorkspaceBoxModel" "interrupts" "I") : Cond) ∈ wq_all := List.mem_of_getElem? (i := 714) (by decide +kernel)
set_option maxRecDepth 20000 in
theorem wk_715 : ((Jvm.Cond.fieldLink "WorkspaceBoxModel" (38 : Nat) "WorkspaceBoxModel" "asked" "[Z") : Cond) ∈ wq_all := List.mem_of_getElem? (i := 715) (by decide +kernel)
set_option maxRecDepth 20000 in
theorem wk_716 : ((Jvm.Cond.fieldLink "WorkspaceBoxModel" (180 : Nat) "WorkspaceBoxModel" "behind" "Z") : Cond) ∈ wq_all := List.mem_of_getElem? (i := 716) (by decide +kernel)
set_option maxRecDepth 20000 in
theorem wk_717 : ((Jvm.Cond.fieldLink "WorkspaceBoxModel" (41 : Nat) "WorkspaceBoxModel" "tape" "[I") : Cond) ∈ wq_all := List.mem_of_getElem? (i := 717) (by decide +kernel)
set_option maxRecDepth 20000 in
theorem wk_718 : ((Jvm.Cond.fieldLink "WorkspaceBoxModel" (245 : Nat) "WorkspaceBoxModel" "taped" "I") : Cond) ∈ wq_all := List.mem_of_getElem? (i := 718) (by decide +kernel)
set_option maxRecDepth 20000 in
theorem wk_773 : ((Jvm.Cond.methodLink "WorkspaceBoxLaw" (47 : Nat) ({ cls := "WorkspaceBoxModel", name := "run", desc := "(I)I" } : Jvm.MethodName)) : Cond) ∈ wq_all := List.mem_of_getElem? (i := 773) (by decide +kernel)
set_option maxRecDepth 20000 in
theorem wk_774 : ((Jvm.Cond.instanceMethod ({ cls := "WorkspaceBoxModel", name := "run", desc := "(I)I" } : Jvm.MethodName)) : Cond) ∈ wq_all := List.mem_of_getElem? (i := 774) (by decide +kernel)
set_option maxRecDepth 20000 in
theorem wk_775 : ((Jvm.Cond.selects "WorkspaceBoxModel" ({ cls := "WorkspaceBoxModel", name := "run", desc := "(I)I" } : Jvm.MethodName) ({ cls := "WorkspaceBoxModel", name := "run", desc := "(I)I" } : Jvm.MethodName)) : Cond) ∈ wq_all := List.mem_of_getElem? (i := 775) (by decide +kernel)
set_option maxRecDepth 20000 in
theorem wk_776 : ((Jvm.Cond.code ({ cls := "WorkspaceBoxModel", name := "run", desc := "(I)I" } : Jvm.MethodName) prog_9_method_47_code (4 : Nat) (Option.some Jvm.ClassFile.FieldType.int)) : Cond) ∈ wq_all := List.mem_of_getElem? (i := 776) (by decide +kernel)
set_option maxRecDepth 20000 in
theorem wk_777 : ((Jvm.Cond.methodLink "WorkspaceBoxModel" (47 : Nat) ({ cls := "WorkspaceBoxModel", name := "in", desc := "(III)Z" } : Jvm.MethodName)) : Cond) ∈ wq_all := List.mem_of_getElem? (i := 777) (by decide +kernel)
set_option maxRecDepth 20000 in
theorem wk_778 : ((Jvm.Cond.static ({ cls := "WorkspaceBoxModel", name := "in", desc := "(III)Z" } : Jvm.MethodName)) : Cond) ∈ wq_all := List.mem_of_getElem? (i := 778) (by decide +kernel)
set_option maxRecDepth 20000 in
theorem wk_779 : ((Jvm.Cond.code ({ cls := "WorkspaceBoxModel", name := "in", desc := "(III)Z" } : Jvm.MethodName) prog_9_method_3_code (3 : Nat) (Option.some Jvm.ClassFile.FieldType.boolean)) : Cond) ∈ wq_all := List.mem_of_getElem? (i := 779) (by decide +kernel)
set_option maxRecDepth 20000 in
theorem wk_780 : ((Jvm.Cond.methodLink "WorkspaceBoxModel" (239 : Nat) ({ cls := "WorkspaceBoxModel", name := "interrupted", desc := "()V" } : Jvm.MethodName)) : Cond) ∈ wq_all := List.mem_of_getElem? (i := 780) (by decide +kernel)
set_option maxRecDepth 20000 in
theorem wk_781 : ((Jvm.Cond.instanceMethod ({ cls := "WorkspaceBoxModel", name := "interrupted", desc := "()V" } : Jvm.MethodName)) : Cond) ∈ wq_all := List.mem_of_getElem? (i := 781) (by decide +kernel)
set_option maxRecDepth 20000 in
theorem wk_782 : ((Jvm.Cond.code ({ cls := "WorkspaceBoxModel", name := "interrupted", desc := "()V" } : Jvm.MethodName) prog_9_method_46_code (2 : Nat) (Option.none : Option Jvm.ClassFile.FieldType)) : Cond) ∈ wq_all := List.mem_of_getElem? (i := 782) (by decide +kernel)
set_option maxRecDepth 20000 in
theorem wk_783 : ((Jvm.Cond.methodLink "WorkspaceBoxModel" (233 : Nat) ({ cls := "WorkspaceBoxModel", name := "isAsked", desc := "(I)Z" } : Jvm.MethodName)) : Cond) ∈ wq_all := List.mem_of_getElem? (i := 783) (by decide +kernel)
set_option maxRecDepth 20000 in
theorem wk_784 : ((Jvm.Cond.instanceMethod ({ cls := "WorkspaceBoxModel", name := "isAsked", desc := "(I)Z" } : Jvm.MethodName)) : Cond) ∈ wq_all := List.mem_of_getElem? (i := 784) (by decide +kernel)
set_option maxRecDepth 20000 in
theorem wk_785 : ((Jvm.Cond.code ({ cls := "WorkspaceBoxModel", name := "isAsked", desc := "(I)Z" } : Jvm.MethodName) prog_9_method_45_code (2 : Nat) (Option.some Jvm.ClassFile.FieldType.boolean)) : Cond) ∈ wq_all := List.mem_of_getElem? (i := 785) (by decide +kernel)
set_option maxRecDepth 20000 in
theorem wk_786 : ((Jvm.Cond.methodLink "WorkspaceBoxModel" (177 : Nat) ({ cls := "WorkspaceBoxModel", name := "enter", desc := "(I)V" } : Jvm.MethodName)) : Cond) ∈ wq_all := List.mem_of_getElem? (i := 786) (by decide +kernel)
set_option maxRecDepth 20000 in
theorem wk_787 : ((Jvm.Cond.instanceMethod ({ cls := "WorkspaceBoxModel", name := "enter", desc := "(I)V" } : Jvm.MethodName)) : Cond) ∈ wq_all := List.mem_of_getElem? (i := 787) (by decide +kernel)
set_option maxRecDepth 20000 in
theorem wk_788 : ((Jvm.Cond.code ({ cls := "WorkspaceBoxModel", name := "enter", desc := "(I)V" } : Jvm.MethodName) prog_9_method_30_code (5 : Nat) (Option.none : Option Jvm.ClassFile.FieldType)) : Cond) ∈ wq_all := List.mem_of_getElem? (i := 788) (by decide +kernel)
set_option maxRecDepth 20000 in
theorem wk_789 : ((Jvm.Cond.methodLink "WorkspaceBoxModel" (122 : Nat) ({ cls := "WorkspaceBoxModel", name := "readWord", desc := "(I)I" } : Jvm.MethodName)) : Cond) ∈ wq_all := List.mem_of_getElem? (i := 789) (by decide +kernel)
set_option maxRecDepth 20000 in
theorem wk_790 : ((Jvm.Cond.instanceMethod ({ cls := "WorkspaceBoxModel", name := "readWord", desc := "(I)I" } : Jvm.MethodName)) : Cond) ∈ wq_all := List.mem_of_getElem? (i := 790) (by decide +kernel)
set_option maxRecDepth 20000 in
theorem wk_791 : ((Jvm.Cond.code ({ cls := "WorkspaceBoxModel", name := "readWord", desc := "(I)I" } : Jvm.MethodName) prog_9_method_8_code (4 : Nat) (Option.some Jvm.ClassFile.FieldType.int)) : Cond) ∈ wq_all := List.mem_of_getElem? (i := 791) (by decide +kernel)
set_option maxRecDepth 20000 in
theorem wk_792 : ((Jvm.Cond.constant "WorkspaceBoxModel" (72 : Nat) (65534 : Int32)) : Cond) ∈ wq_all := List.mem_of_getElem? (i := 792) (by decide +kernel)
set_option maxRecDepth 20000 in
theorem wk_793 : ((Jvm.Cond.methodLink "WorkspaceBoxModel" (73 : Nat) ({ cls := "WorkspaceBoxModel", name := "readByte", desc := "(I)I" } : Jvm.MethodName)) : Cond) ∈ wq_all := List.mem_of_getElem? (i := 793) (by decide +kernel)
set_option maxRecDepth 20000 in
theorem wk_794 : ((Jvm.Cond.instanceMethod ({ cls := "WorkspaceBoxModel", name := "readByte", desc := "(I)I" } : Jvm.MethodName)) : Cond) ∈ wq_all := List.mem_of_getElem? (i := 794) (by decide +kernel)
set_option maxRecDepth 20000 in
theorem wk_795 : ((Jvm.Cond.code ({ cls := "WorkspaceBoxModel", name := "readByte", desc := "(I)I" } : Jvm.MethodName) prog_9_method_6_code (2 : Nat) (Option.some Jvm.ClassFile.FieldType.int)) : Cond) ∈ wq_all := List.mem_of_getElem? (i := 795) (by decide +kernel)
set_option maxRecDepth 20000 in
theorem wk_796 : ((Jvm.Cond.methodLink "WorkspaceBoxModel" (56 : Nat) ({ cls := "WorkspaceBoxModel", name := "isPort", desc := "(I)Z" } : Jvm.MethodName)) : Cond) ∈ wq_all := List.mem_of_getElem? (i := 796) (by decide +kernel)
set_option maxRecDepth 20000 in
theorem wk_797 : ((Jvm.Cond.static ({ cls := "WorkspaceBoxModel", name := "isPort", desc := "(I)Z" } : Jvm.MethodName)) : Cond) ∈ wq_all := List.mem_of_getElem? (i := 797) (by decide +kernel)
set_option maxRecDepth 20000 in
theorem wk_798 : ((Jvm.Cond.code ({ cls := "WorkspaceBoxModel", name := "isPort", desc := "(I)Z" } : Jvm.MethodName) prog_9_method_5_code (1 : Nat) (Option.some Jvm.ClassFile.FieldType.boolean)) : Cond) ∈ wq_all := List.mem_of_getElem? (i := 798) (by decide +kernel)
set_option maxRecDepth 20000 in
theorem wk_799 : ((Jvm.Cond.constant "WorkspaceBoxModel" (54 : Nat) (34816 : Int32)) : Cond) ∈ wq_all := List.mem_of_getElem? (i := 799) (by decide +kernel)
set_option maxRecDepth 20000 in
theorem wk_800 : ((Jvm.Cond.constant "WorkspaceBoxModel" (55 : Nat) (40959 : Int32)) : Cond) ∈ wq_all := List.mem_of_getElem? (i := 800) (by decide +kernel)
set_option maxRecDepth 20000 in
theorem wk_801 : ((Jvm.Cond.methodLink "WorkspaceBoxModel" (60 : Nat) ({ cls := "WorkspaceBoxModel", name := "readPort", desc := "(II)I" } : Jvm.MethodName)) : Cond) ∈ wq_all := List.mem_of_getElem? (i := 801) (by decide +kernel)
set_option maxRecDepth 20000 in
theorem wk_802 : ((Jvm.Cond.instanceMethod ({ cls := "WorkspaceBoxModel", name := "readPort", desc := "(II)I" } : Jvm.MethodName)) : Cond) ∈ wq_all := List.mem_of_getElem? (i := 802) (by decide +kernel)
set_option maxRecDepth 20000 in
theorem wk_803 : ((Jvm.Cond.code ({ cls := "WorkspaceBoxModel", name := "readPort", desc := "(II)I" } : Jvm.MethodName) prog_9_method_12_code (4 : Nat) (Option.some Jvm.ClassFile.FieldType.int)) : Cond) ∈ wq_all := List.mem_of_getElem? (i := 803) (by decide +kernel)
set_option maxRecDepth 20000 in
theorem wk_804 : ((Jvm.Cond.methodLink "WorkspaceBoxModel" (92 : Nat) ({ cls := "WorkspaceBoxModel", name := "nextPicture", desc := "()V" } : Jvm.MethodName)) : Cond) ∈ wq_all := List.mem_of_getElem? (i := 804) (by decide +kernel)
set_option maxRecDepth 20000 in
theorem wk_805 : ((Jvm.Cond.instanceMethod ({ cls := "WorkspaceBoxModel", name := "nextPicture", desc := "()V" } : Jvm.MethodName)) : Cond) ∈ wq_all := List.mem_of_getElem? (i := 805) (by decide +kernel)
set_option maxRecDepth 20000 in
theorem wk_806 : ((Jvm.Cond.code ({ cls := "WorkspaceBoxModel", name := "nextPicture", desc := "()V" } : Jvm.MethodName) prog_9_method_10_code (1 : Nat) (Option.none : Option Jvm.ClassFile.FieldType)) : Cond) ∈ wq_all := List.mem_of_getElem? (i := 806) (by decide +kernel)
set_option maxRecDepth 20000 in
theorem wk_807 : ((Jvm.Cond.methodLink "WorkspaceBoxModel" (102 : Nat) ({ cls := "WorkspaceBoxModel", name := "nextGrom", desc := "()V" } : Jvm.MethodName)) : Cond) ∈ wq_all := List.mem_of_getElem? (i := 807) (by decide +kernel)
set_option maxRecDepth 20000 in
theorem wk_808 : ((Jvm.Cond.instanceMethod ({ cls := "WorkspaceBoxModel", name := "nextGrom", desc := "()V" } : Jvm.MethodName)) : Cond) ∈ wq_all := List.mem_of_getElem? (i := 808) (by decide +kernel)
set_option maxRecDepth 20000 in
theorem wk_809 : ((Jvm.Cond.code ({ cls := "WorkspaceBoxModel", name := "nextGrom", desc := "()V" } : Jvm.MethodName) prog_9_method_11_code (1 : Nat) (Option.none : Option Jvm.ClassFile.FieldType)) : Cond) ∈ wq_all := List.mem_of_getElem? (i := 809) (by decide +kernel)
set_option maxRecDepth 20000 in
theorem wk_810 : ((Jvm.Cond.methodLink "WorkspaceBoxModel" (64 : Nat) ({ cls := "WorkspaceBoxModel", name := "plain", desc := "(I)I" } : Jvm.MethodName)) : Cond) ∈ wq_all := List.mem_of_getElem? (i := 810) (by decide +kernel)
set_option maxRecDepth 20000 in
theorem wk_811 : ((Jvm.Cond.instanceMethod ({ cls := "WorkspaceBoxModel", name := "plain", desc := "(I)I" } : Jvm.MethodName)) : Cond) ∈ wq_all := List.mem_of_getElem? (i := 811) (by decide +kernel)
set_option maxRecDepth 20000 in
theorem wk_812 : ((Jvm.Cond.code ({ cls := "WorkspaceBoxModel", name := "plain", desc := "(I)I" } : Jvm.MethodName) prog_9_method_4_code (2 : Nat) (Option.some Jvm.ClassFile.FieldType.int)) : Cond) ∈ wq_all := List.mem_of_getElem? (i := 812) (by decide +kernel)
set_option maxRecDepth 20000 in
theorem wk_813 : ((Jvm.Cond.constant "WorkspaceBoxModel" (51 : Nat) (40960 : Int32)) : Cond) ∈ wq_all := List.mem_of_getElem? (i := 813) (by decide +kernel)
set_option maxRecDepth 20000 in
theorem wk_814 : ((Jvm.Cond.constant "WorkspaceBoxModel" (52 : Nat) (32768 : Int32)) : Cond) ∈ wq_all := List.mem_of_getElem? (i := 814) (by decide +kernel)
set_option maxRecDepth 20000 in
theorem wk_815 : ((Jvm.Cond.constant "WorkspaceBoxModel" (53 : Nat) (33791 : Int32)) : Cond) ∈ wq_all := List.mem_of_getElem? (i := 815) (by decide +kernel)
set_option maxRecDepth 20000 in
theorem wk_816 : ((Jvm.Cond.constant "WorkspaceBoxModel" (118 : Nat) (65535 : Int32)) : Cond) ∈ wq_all := List.mem_of_getElem? (i := 816) (by decide +kernel)
set_option maxRecDepth 20000 in
theorem wk_817 : ((Jvm.Cond.methodLink "WorkspaceBoxModel" (149 : Nat) ({ cls := "WorkspaceBoxModel", name := "register", desc := "(II)V" } : Jvm.MethodName)) : Cond) ∈ wq_all := List.mem_of_getElem? (i := 817) (by decide +kernel)
set_option maxRecDepth 20000 in
theorem wk_818 : ((Jvm.Cond.instanceMethod ({ cls := "WorkspaceBoxModel", name := "register", desc := "(II)V" } : Jvm.MethodName)) : Cond) ∈ wq_all := List.mem_of_getElem? (i := 818) (by decide +kernel)
set_option maxRecDepth 20000 in
theorem wk_819 : ((Jvm.Cond.code ({ cls := "WorkspaceBoxModel", name := "register", desc := "(II)V" } : Jvm.MethodName) prog_9_method_18_code (3 : Nat) (Option.none : Option Jvm.ClassFile.FieldType)) : Cond) ∈ wq_all := List.mem_of_getElem? (i := 819) (by decide +kernel)
set_option maxRecDepth 20000 in
theorem wk_820 : ((Jvm.Cond.methodLink "WorkspaceBoxModel" (119 : Nat) ({ cls := "WorkspaceBoxModel", name := "registerAt", desc := "(I)I" } : Jvm.MethodName)) : Cond) ∈ wq_all := List.mem_of_getElem? (i := 820) (by decide +kernel)
set_option maxRecDepth 20000 in
theorem wk_821 : ((Jvm.Cond.instanceMethod ({ cls := "WorkspaceBoxModel", name := "registerAt", desc := "(I)I" } : Jvm.MethodName)) : Cond) ∈ wq_all := List.mem_of_getElem? (i := 821) (by decide +kernel)
set_option maxRecDepth 20000 in
theorem wk_822 : ((Jvm.Cond.code ({ cls := "WorkspaceBoxModel", name := "registerAt", desc := "(I)I" } : Jvm.MethodName) prog_9_method_16_code (2 : Nat) (Option.some Jvm.ClassFile.FieldType.int)) : Cond) ∈ wq_all := List.mem_of_getElem? (i := 822) (by decide +kernel)
set_option maxRecDepth 20000 in
theorem wk_823 : ((Jvm.Cond.methodLink "WorkspaceBoxModel" (125 : Nat) ({ cls := "WorkspaceBoxModel", name := "writeWord", desc := "(II)V" } : Jvm.MethodName)) : Cond) ∈ wq_all := List.mem_of_getElem? (i := 823) (by decide +kernel)
set_option maxRecDepth 20000 in
theorem wk_824 : ((Jvm.Cond.instanceMethod ({ cls := "WorkspaceBoxModel", name := "writeWord", desc := "(II)V" } : Jvm.MethodName)) : Cond) ∈ wq_all := List.mem_of_getElem? (i := 824) (by decide +kernel)
set_option maxRecDepth 20000 in
theorem wk_825 : ((Jvm.Cond.code ({ cls := "WorkspaceBoxModel", name := "writeWord", desc := "(II)V" } : Jvm.MethodName) prog_9_method_9_code (4 : Nat) (Option.none : Option Jvm.ClassFile.FieldType)) : Cond) ∈ wq_all := List.mem_of_getElem? (i := 825) (by decide +kernel)
set_option maxRecDepth 20000 in
theorem wk_826 : ((Jvm.Cond.methodLink "WorkspaceBoxModel" (76 : Nat) ({ cls := "WorkspaceBoxModel", name := "writeByte", desc := "(II)V" } : Jvm.MethodName)) : Cond) ∈ wq_all := List.mem_of_getElem? (i := 826) (by decide +kernel)
set_option maxRecDepth 20000 in
theorem wk_827 : ((Jvm.Cond.instanceMethod ({ cls := "WorkspaceBoxModel", name := "writeByte", desc := "(II)V" } : Jvm.MethodName)) : Cond) ∈ wq_all := List.mem_of_getElem? (i := 827) (by decide +kernel)
set_option maxRecDepth 20000 in
theorem wk_828 : ((Jvm.Cond.code ({ cls := "WorkspaceBoxModel", name := "writeByte", desc := "(II)V" } : Jvm.MethodName) prog_9_method_7_code (3 : Nat) (Option.none : Option Jvm.ClassFile.FieldType)) : Cond) ∈ wq_all := List.mem_of_getElem? (i := 828) (by decide +kernel)
set_option maxRecDepth 20000 in
theorem wk_829 : ((Jvm.Cond.methodLink "WorkspaceBoxModel" (68 : Nat) ({ cls := "WorkspaceBoxModel", name := "writePort", desc := "(III)V" } : Jvm.MethodName)) : Cond) ∈ wq_all := List.mem_of_getElem? (i := 829) (by decide +kernel)
set_option maxRecDepth 20000 in
theorem wk_830 : ((Jvm.Cond.instanceMethod ({ cls := "WorkspaceBoxModel", name := "writePort", desc := "(III)V" } : Jvm.MethodName)) : Cond) ∈ wq_all := List.mem_of_getElem? (i := 830) (by decide +kernel)
set_option maxRecDepth 20000 in
theorem wk_831 : ((Jvm.Cond.code ({ cls := "WorkspaceBoxModel", name := "writePort", desc := "(III)V" } : Jvm.MethodName) prog_9_method_13_code (4 : Nat) (Option.none : Option Jvm.ClassFile.FieldType)) : Cond) ∈ wq_all := List.mem_of_getElem? (i := 831) (by decide +kernel)
set_option maxRecDepth 20000 in
theorem wk_832 : ((Jvm.Cond.methodLink "WorkspaceBoxModel" (108 : Nat) ({ cls := "WorkspaceBoxModel", name := "commands", desc := "(I)V" } : Jvm.MethodName)) : Cond) ∈ wq_all := List.mem_of_getElem? (i := 832) (by decide +kernel)
set_option maxRecDepth 20000 in
theorem wk_833 : ((Jvm.Cond.instanceMethod ({ cls := "WorkspaceBoxModel", name := "commands", desc := "(I)V" } : Jvm.MethodName)) : Cond) ∈ wq_all := List.mem_of_getElem? (i := 833) (by decide +kernel)
set_option maxRecDepth 20000 in
theorem wk_834 : ((Jvm.Cond.code ({ cls := "WorkspaceBoxModel", name := "commands", desc := "(I)V" } : Jvm.MethodName) prog_9_method_14_code (2 : Nat) (Option.none : Option Jvm.ClassFile.FieldType)) : Cond) ∈ wq_all := List.mem_of_getElem? (i := 834) (by decide +kernel)
set_option maxRecDepth 20000 in
theorem wk_835 : ((Jvm.Cond.methodLink "WorkspaceBoxModel" (142 : Nat) ({ cls := "WorkspaceBoxModel", name := "nextWord", desc := "()I" } : Jvm.MethodName)) : Cond) ∈ wq_all := List.mem_of_getElem? (i := 835) (by decide +kernel)
set_option maxRecDepth 20000 in
theorem wk_836 : ((Jvm.Cond.instanceMethod ({ cls := "WorkspaceBoxModel", name := "nextWord", desc := "()I" } : Jvm.MethodName)) : Cond) ∈ wq_all := List.mem_of_getElem? (i := 836) (by decide +kernel)
set_option maxRecDepth 20000 in
theorem wk_837 : ((Jvm.Cond.code ({ cls := "WorkspaceBoxModel", name := "nextWord", desc := "()I" } : Jvm.MethodName) prog_9_method_19_code (2 : Nat) (Option.some Jvm.ClassFile.FieldType.int)) : Cond) ∈ wq_all := List.mem_of_getElem? (i := 837) (by decide +kernel)
set_option maxRecDepth 20000 in
theorem wk_838 : ((Jvm.Cond.methodLink "WorkspaceBoxModel" (196 : Nat) ({ cls := "WorkspaceBoxModel", name := "does", desc := "(I)Z" } : Jvm.MethodName)) : Cond) ∈ wq_all := List.mem_of_getElem? (i := 838) (by decide +kernel)
set_option maxRecDepth 20000 in
theorem wk_839 : ((Jvm.Cond.instanceMethod ({ cls := "WorkspaceBoxModel", name := "does", desc := "(I)Z" } : Jvm.MethodName)) : Cond) ∈ wq_all := List.mem_of_getElem? (i := 839) (by decide +kernel)
set_option maxRecDepth 20000 in
theorem wk_840 : ((Jvm.Cond.code ({ cls := "WorkspaceBoxModel", name := "does", desc := "(I)Z" } : Jvm.MethodName) prog_9_method_44_code (2 : Nat) (Option.some Jvm.ClassFile.FieldType.boolean)) : Cond) ∈ wq_all := List.mem_of_getElem? (i := 840) (by decide +kernel)
set_option maxRecDepth 20000 in
theorem wk_841 : ((Jvm.Cond.methodLink "WorkspaceBoxModel" (215 : Nat) ({ cls := "WorkspaceBoxModel", name := "two", desc := "(I)Z" } : Jvm.MethodName)) : Cond) ∈ wq_all := List.mem_of_getElem? (i := 841) (by decide +kernel)
set_option maxRecDepth 20000 in
theorem wk_842 : ((Jvm.Cond.instanceMethod ({ cls := "WorkspaceBoxModel", name := "two", desc := "(I)Z" } : Jvm.MethodName)) : Cond) ∈ wq_all := List.mem_of_getElem? (i := 842) (by decide +kernel)
set_option maxRecDepth 20000 in
theorem wk_843 : ((Jvm.Cond.code ({ cls := "WorkspaceBoxModel", name := "two", desc := "(I)Z" } : Jvm.MethodName) prog_9_method_31_code (8 : Nat) (Option.some Jvm.ClassFile.FieldType.boolean)) : Cond) ∈ wq_all := List.mem_of_getElem? (i := 843) (by decide +kernel)
set_option maxRecDepth 20000 in
theorem wk_844 : ((Jvm.Cond.methodLink "WorkspaceBoxModel" (155 : Nat) ({ cls := "WorkspaceBoxModel", name := "operand", desc := "(IZ)I" } : Jvm.MethodName)) : Cond) ∈ wq_all := List.mem_of_getElem? (i := 844) (by decide +kernel)
set_option maxRecDepth 20000 in
theorem wk_845 : ((Jvm.Cond.instanceMethod ({ cls := "WorkspaceBoxModel", name := "operand", desc := "(IZ)I" } : Jvm.MethodName)) : Cond) ∈ wq_all := List.mem_of_getElem? (i := 845) (by decide +kernel)
set_option maxRecDepth 20000 in
theorem wk_846 : ((Jvm.Cond.code ({ cls := "WorkspaceBoxModel", name := "operand", desc := "(IZ)I" } : Jvm.MethodName) prog_9_method_25_code (6 : Nat) (Option.some Jvm.ClassFile.FieldType.int)) : Cond) ∈ wq_all := List.mem_of_getElem? (i := 846) (by decide +kernel)
set_option maxRecDepth 20000 in
theorem wk_847 : ((Jvm.Cond.methodLink "WorkspaceBoxModel" (146 : Nat) ({ cls := "WorkspaceBoxModel", name := "register", desc := "(I)I" } : Jvm.MethodName)) : Cond) ∈ wq_all := List.mem_of_getElem? (i := 847) (by decide +kernel)
set_option maxRecDepth 20000 in
theorem wk_848 : ((Jvm.Cond.instanceMethod ({ cls := "WorkspaceBoxModel", name := "register", desc := "(I)I" } : Jvm.MethodName)) : Cond) ∈ wq_all := List.mem_of_getElem? (i := 848) (by decide +kernel)
set_option maxRecDepth 20000 in
theorem wk_849 : ((Jvm.Cond.code ({ cls := "WorkspaceBoxModel", name := "register", desc := "(I)I" } : Jvm.MethodName) prog_9_method_17_code (2 : Nat) (Option.some Jvm.ClassFile.FieldType.int)) : Cond) ∈ wq_all := List.mem_of_getElem? (i := 849) (by decide +kernel)
set_option maxRecDepth 20000 in
theorem wk_850 : ((Jvm.Cond.methodLink "WorkspaceBoxModel" (158 : Nat) ({ cls := "WorkspaceBoxModel", name := "read", desc := "(IZ)I" } : Jvm.MethodName)) : Cond) ∈ wq_all := List.mem_of_getElem? (i := 850) (by decide +kernel)
set_option maxRecDepth 20000 in
theorem wk_851 : ((Jvm.Cond.instanceMethod ({ cls := "WorkspaceBoxModel", name := "read", desc := "(IZ)I" } : Jvm.MethodName)) : Cond) ∈ wq_all := List.mem_of_getElem? (i := 851) (by decide +kernel)
set_option maxRecDepth 20000 in
theorem wk_852 : ((Jvm.Cond.code ({ cls := "WorkspaceBoxModel", name := "read", desc := "(IZ)I" } : Jvm.MethodName) prog_9_method_26_code (3 : Nat) (Option.some Jvm.ClassFile.FieldType.int)) : Cond) ∈ wq_all := List.mem_of_getElem? (i := 852) (by decide +kernel)
set_option maxRecDepth 20000 in
theorem wk_853 : ((Jvm.Cond.methodLink "WorkspaceBoxModel" (161 : Nat) ({ cls := "WorkspaceBoxModel", name := "less", desc := "(IIZ)I" } : Jvm.MethodName)) : Cond) ∈ wq_all := List.mem_of_getElem? (i := 853) (by decide +kernel)
set_option maxRecDepth 20000 in
theorem wk_854 : ((Jvm.Cond.instanceMethod ({ cls := "WorkspaceBoxModel", name := "less", desc := "(IIZ)I" } : Jvm.MethodName)) : Cond) ∈ wq_all := List.mem_of_getElem? (i := 854) (by decide +kernel)
set_option maxRecDepth 20000 in
theorem wk_855 : ((Jvm.Cond.code ({ cls := "WorkspaceBoxModel", name := "less", desc := "(IIZ)I" } : Jvm.MethodName) prog_9_method_29_code (6 : Nat) (Option.some Jvm.ClassFile.FieldType.int)) : Cond) ∈ wq_all := List.mem_of_getElem? (i := 855) (by decide +kernel)
set_option maxRecDepth 20000 in
theorem wk_856 : ((Jvm.Cond.methodLink "WorkspaceBoxModel" (151 : Nat) ({ cls := "WorkspaceBoxModel", name := "compare", desc := "(IIZ)V" } : Jvm.MethodName)) : Cond) ∈ wq_all := List.mem_of_getElem? (i := 856) (by decide +kernel)
set_option maxRecDepth 20000 in
theorem wk_857 : ((Jvm.Cond.instanceMethod ({ cls := "WorkspaceBoxModel", name := "compare", desc := "(IIZ)V" } : Jvm.MethodName)) : Cond) ∈ wq_all := List.mem_of_getElem? (i := 857) (by decide +kernel)
set_option maxRecDepth 20000 in
theorem wk_858 : ((Jvm.Cond.code ({ cls := "WorkspaceBoxModel", name := "compare", desc := "(IIZ)V" } : Jvm.MethodName) prog_9_method_23_code (4 : Nat) (Option.none : Option Jvm.ClassFile.FieldType)) : Cond) ∈ wq_all := List.mem_of_getElem? (i := 858) (by decide +kernel)
set_option maxRecDepth 20000 in
theorem wk_859 : ((Jvm.Cond.methodLink "WorkspaceBoxModel" (134 : Nat) ({ cls := "WorkspaceBoxModel", name := "flag", desc := "(IZ)V" } : Jvm.MethodName)) : Cond) ∈ wq_all := List.mem_of_getElem? (i := 859) (by decide +kernel)
set_option maxRecDepth 20000 in
theorem wk_860 : ((Jvm.Cond.instanceMethod ({ cls := "WorkspaceBoxModel", name := "flag", desc := "(IZ)V" } : Jvm.MethodName)) : Cond) ∈ wq_all := List.mem_of_getElem? (i := 860) (by decide +kernel)
set_option maxRecDepth 20000 in
theorem wk_861 : ((Jvm.Cond.code ({ cls := "WorkspaceBoxModel", name := "flag", desc := "(IZ)V" } : Jvm.MethodName) prog_9_method_20_code (3 : Nat) (Option.none : Option Jvm.ClassFile.FieldType)) : Cond) ∈ wq_all := List.mem_of_getElem? (i := 861) (by decide +kernel)
set_option maxRecDepth 20000 in
theorem wk_862 : ((Jvm.Cond.methodLink "WorkspaceBoxModel" (138 : Nat) ({ cls := "WorkspaceBoxModel", name := "signed", desc := "(IZ)I" } : Jvm.MethodName)) : Cond) ∈ wq_all := List.mem_of_getElem? (i := 862) (by decide +kernel)
set_option maxRecDepth 20000 in
theorem wk_863 : ((Jvm.Cond.static ({ cls := "WorkspaceBoxModel", name := "signed", desc := "(IZ)I" } : Jvm.MethodName)) : Cond) ∈ wq_all := List.mem_of_getElem? (i := 863) (by decide +kernel)
set_option maxRecDepth 20000 in
theorem wk_864 : ((Jvm.Cond.code ({ cls := "WorkspaceBoxModel", name := "signed", desc := "(IZ)I" } : Jvm.MethodName) prog_9_method_22_code (2 : Nat) (Option.some Jvm.ClassFile.FieldType.int)) : Cond) ∈ wq_all := List.mem_of_getElem? (i := 864) (by decide +kernel)
set_option maxRecDepth 20000 in
theorem wk_865 : ((Jvm.Cond.methodLink "WorkspaceBoxModel" (165 : Nat) ({ cls := "WorkspaceBoxModel", name := "plus", desc := "(IIZ)I" } : Jvm.MethodName)) : Cond) ∈ wq_all := List.mem_of_getElem? (i := 865) (by decide +kernel)
set_option maxRecDepth 20000 in
theorem wk_866 : ((Jvm.Cond.instanceMethod ({ cls := "WorkspaceBoxModel", name := "plus", desc := "(IIZ)I" } : Jvm.MethodName)) : Cond) ∈ wq_all := List.mem_of_getElem? (i := 866) (by decide +kernel)
set_option maxRecDepth 20000 in
theorem wk_867 : ((Jvm.Cond.code ({ cls := "WorkspaceBoxModel", name := "plus", desc := "(IIZ)I" } : Jvm.MethodName) prog_9_method_28_code (6 : Nat) (Option.some Jvm.ClassFile.FieldType.int)) : Cond) ∈ wq_all := List.mem_of_getElem? (i := 867) (by decide +kernel)
set_option maxRecDepth 20000 in
theorem wk_868 : ((Jvm.Cond.methodLink "WorkspaceBoxModel" (168 : Nat) ({ cls := "WorkspaceBoxModel", name := "odd", desc := "(I)V" } : Jvm.MethodName)) : Cond) ∈ wq_all := List.mem_of_getElem? (i := 868) (by decide +kernel)
set_option maxRecDepth 20000 in
theorem wk_869 : ((Jvm.Cond.instanceMethod ({ cls := "WorkspaceBoxModel", name := "odd", desc := "(I)V" } : Jvm.MethodName)) : Cond) ∈ wq_all := List.mem_of_getElem? (i := 869) (by decide +kernel)
set_option maxRecDepth 20000 in
theorem wk_870 : ((Jvm.Cond.code ({ cls := "WorkspaceBoxModel", name := "odd", desc := "(I)V" } : Jvm.MethodName) prog_9_method_24_code (4 : Nat) (Option.none : Option Jvm.ClassFile.FieldType)) : Cond) ∈ wq_all := List.mem_of_getElem? (i := 870) (by decide +kernel)
set_option maxRecDepth 20000 in
theorem wk_871 : ((Jvm.Cond.methodLink "WorkspaceBoxModel" (171 : Nat) ({ cls := "WorkspaceBoxModel", name := "write", desc := "(IIZ)V" } : Jvm.MethodName)) : Cond) ∈ wq_all := List.mem_of_getElem? (i := 871) (by decide +kernel)
set_option maxRecDepth 20000 in
theorem wk_872 : ((Jvm.Cond.instanceMethod ({ cls := "WorkspaceBoxModel", name := "write", desc := "(IIZ)V" } : Jvm.MethodName)) : Cond) ∈ wq_all := List.mem_of_getElem? (i := 872) (by decide +kernel)
set_option maxRecDepth 20000 in
theorem wk_873 : ((Jvm.Cond.code ({ cls := "WorkspaceBoxModel", name := "write", desc := "(IIZ)V" } : Jvm.MethodName) prog_9_method_27_code (4 : Nat) (Option.none : Option Jvm.ClassFile.FieldType)) : Cond) ∈ wq_all := List.mem_of_getElem? (i := 873) (by decide +kernel)
set_option maxRecDepth 20000 in
theorem wk_874 : ((Jvm.Cond.methodLink "WorkspaceBoxModel" (218 : Nat) ({ cls := "WorkspaceBoxModel", name := "withRegister", desc := "(I)Z" } : Jvm.MethodName)) : Cond) ∈ wq_all := List.mem_of_getElem? (i := 874) (by decide +kernel)
set_option maxRecDepth 20000 in
theorem wk_875 : ((Jvm.Cond.instanceMethod ({ cls := "WorkspaceBoxModel", name := "withRegister", desc := "(I)Z" } : Jvm.MethodName)) : Cond) ∈ wq_all := List.mem_of_getElem? (i := 875) (by decide +kernel)
set_option maxRecDepth 20000 in
theorem wk_876 : ((Jvm.Cond.code ({ cls := "WorkspaceBoxModel", name := "withRegister", desc := "(I)Z" } : Jvm.MethodName) prog_9_method_33_code (9 : Nat) (Option.some Jvm.ClassFile.FieldType.boolean)) : Cond) ∈ wq_all := List.mem_of_getElem? (i := 876) (by decide +kernel)
set_option maxRecDepth 20000 in
theorem wk_877 : ((Jvm.Cond.methodLink "WorkspaceBoxModel" (174 : Nat) ({ cls := "WorkspaceBoxModel", name := "bits", desc := "(IIZ)V" } : Jvm.MethodName)) : Cond) ∈ wq_all := List.mem_of_getElem? (i := 877) (by decide +kernel)
set_option maxRecDepth 20000 in
theorem wk_878 : ((Jvm.Cond.instanceMethod ({ cls := "WorkspaceBoxModel", name := "bits", desc := "(IIZ)V" } : Jvm.MethodName)) : Cond) ∈ wq_all := List.mem_of_getElem? (i := 878) (by decide +kernel)
set_option maxRecDepth 20000 in
theorem wk_879 : ((Jvm.Cond.code ({ cls := "WorkspaceBoxModel", name := "bits", desc := "(IIZ)V" } : Jvm.MethodName) prog_9_method_35_code (10 : Nat) (Option.none : Option Jvm.ClassFile.FieldType)) : Cond) ∈ wq_all := List.mem_of_getElem? (i := 879) (by decide +kernel)
set_option maxRecDepth 20000 in
theorem wk_880 : ((Jvm.Cond.methodLink "WorkspaceBoxModel" (190 : Nat) ({ cls := "WorkspaceBoxModel", name := "base", desc := "()I" } : Jvm.MethodName)) : Cond) ∈ wq_all := List.mem_of_getElem? (i := 880) (by decide +kernel)
set_option maxRecDepth 20000 in
theorem wk_881 : ((Jvm.Cond.instanceMethod ({ cls := "WorkspaceBoxModel", name := "base", desc := "()I" } : Jvm.MethodName)) : Cond) ∈ wq_all := List.mem_of_getElem? (i := 881) (by decide +kernel)
set_option maxRecDepth 20000 in
theorem wk_882 : ((Jvm.Cond.code ({ cls := "WorkspaceBoxModel", name := "base", desc := "()I" } : Jvm.MethodName) prog_9_method_32_code (1 : Nat) (Option.some Jvm.ClassFile.FieldType.int)) : Cond) ∈ wq_all := List.mem_of_getElem? (i := 882) (by decide +kernel)
set_option maxRecDepth 20000 in
theorem wk_883 : ((Jvm.Cond.methodLink "WorkspaceBoxModel" (193 : Nat) ({ cls := "WorkspaceBoxModel", name := "inOf", desc := "(I)I" } : Jvm.MethodName)) : Cond) ∈ wq_all := List.mem_of_getElem? (i := 883) (by decide +kernel)
set_option maxRecDepth 20000 in
theorem wk_884 : ((Jvm.Cond.instanceMethod ({ cls := "WorkspaceBoxModel", name := "inOf", desc := "(I)I" } : Jvm.MethodName)) : Cond) ∈ wq_all := List.mem_of_getElem? (i := 884) (by decide +kernel)
set_option maxRecDepth 20000 in
theorem wk_885 : ((Jvm.Cond.code ({ cls := "WorkspaceBoxModel", name := "inOf", desc := "(I)I" } : Jvm.MethodName) prog_9_method_15_code (3 : Nat) (Option.some Jvm.ClassFile.FieldType.int)) : Cond) ∈ wq_all := List.mem_of_getElem? (i := 885) (by decide +kernel)
set_option maxRecDepth 20000 in
theorem wk_886 : ((Jvm.Cond.constantLong "WorkspaceBoxModel" (183 : Nat) (65535 : Int64)) : Cond) ∈ wq_all := List.mem_of_getElem? (i := 886) (by decide +kernel)
set_option maxRecDepth 20000 in
theorem wk_887 : ((Jvm.Cond.methodLink "WorkspaceBoxModel" (185 : Nat) ({ cls := "WorkspaceBoxModel", name := "divide", desc := "(III)V" } : Jvm.MethodName)) : Cond) ∈ wq_all := List.mem_of_getElem? (i := 887) (by decide +kernel)
set_option maxRecDepth 20000 in
theorem wk_888 : ((Jvm.Cond.instanceMethod ({ cls := "WorkspaceBoxModel", name := "divide", desc := "(III)V" } : Jvm.MethodName)) : Cond) ∈ wq_all := List.mem_of_getElem? (i := 888) (by decide +kernel)
set_option maxRecDepth 20000 in
theorem wk_889 : ((Jvm.Cond.code ({ cls := "WorkspaceBoxModel", name := "divide", desc := "(III)V" } : Jvm.MethodName) prog_9_method_34_code (6 : Nat) (Option.none : Option Jvm.ClassFile.FieldType)) : Cond) ∈ wq_all := List.mem_of_getElem? (i := 889) (by decide +kernel)
set_option maxRecDepth 20000 in
theorem wk_890 : ((Jvm.Cond.constantLong "WorkspaceBoxModel" (188 : Nat) (65536 : Int64)) : Cond) ∈ wq_all := List.mem_of_getElem? (i := 890) (by decide +kernel)
set_option maxRecDepth 20000 in
theorem wk_891 : ((Jvm.Cond.methodLink "WorkspaceBoxModel" (221 : Nat) ({ cls := "WorkspaceBoxModel", name := "jump", desc := "(I)V" } : Jvm.MethodName)) : Cond) ∈ wq_all := List.mem_of_getElem? (i := 891) (by decide +kernel)
set_option maxRecDepth 20000 in
theorem wk_892 : ((Jvm.Cond.instanceMethod ({ cls := "WorkspaceBoxModel", name := "jump", desc := "(I)V" } : Jvm.MethodName)) : Cond) ∈ wq_all := List.mem_of_getElem? (i := 892) (by decide +kernel)
set_option maxRecDepth 20000 in
theorem wk_893 : ((Jvm.Cond.code ({ cls := "WorkspaceBoxModel", name := "jump", desc := "(I)V" } : Jvm.MethodName) prog_9_method_43_code (5 : Nat) (Option.none : Option Jvm.ClassFile.FieldType)) : Cond) ∈ wq_all := List.mem_of_getElem? (i := 893) (by decide +kernel)
set_option maxRecDepth 20000 in
theorem wk_894 : ((Jvm.Cond.methodLink "WorkspaceBoxModel" (212 : Nat) ({ cls := "WorkspaceBoxModel", name := "jumps", desc := "(I)Z" } : Jvm.MethodName)) : Cond) ∈ wq_all := List.mem_of_getElem? (i := 894) (by decide +kernel)
set_option maxRecDepth 20000 in
theorem wk_895 : ((Jvm.Cond.instanceMethod ({ cls := "WorkspaceBoxModel", name := "jumps", desc := "(I)Z" } : Jvm.MethodName)) : Cond) ∈ wq_all := List.mem_of_getElem? (i := 895) (by decide +kernel)
set_option maxRecDepth 20000 in
theorem wk_896 : ((Jvm.Cond.code ({ cls := "WorkspaceBoxModel", name := "jumps", desc := "(I)Z" } : Jvm.MethodName) prog_9_method_42_code (5 : Nat) (Option.some Jvm.ClassFile.FieldType.boolean)) : Cond) ∈ wq_all := List.mem_of_getElem? (i := 896) (by decide +kernel)
set_option maxRecDepth 20000 in
theorem wk_897 : ((Jvm.Cond.methodLink "WorkspaceBoxModel" (209 : Nat) ({ cls := "WorkspaceBoxModel", name := "has", desc := "(I)Z" } : Jvm.MethodName)) : Cond) ∈ wq_all := List.mem_of_getElem? (i := 897) (by decide +kernel)
set_option maxRecDepth 20000 in
theorem wk_898 : ((Jvm.Cond.instanceMethod ({ cls := "WorkspaceBoxModel", name := "has", desc := "(I)Z" } : Jvm.MethodName)) : Cond) ∈ wq_all := List.mem_of_getElem? (i := 898) (by decide +kernel)
set_option maxRecDepth 20000 in
theorem wk_899 : ((Jvm.Cond.code ({ cls := "WorkspaceBoxModel", name := "has", desc := "(I)Z" } : Jvm.MethodName) prog_9_method_21_code (2 : Nat) (Option.some Jvm.ClassFile.FieldType.boolean)) : Cond) ∈ wq_all := List.mem_of_getElem? (i := 899) (by decide +kernel)
set_option maxRecDepth 20000 in
theorem wk_900 : ((Jvm.Cond.methodLink "WorkspaceBoxModel" (224 : Nat) ({ cls := "WorkspaceBoxModel", name := "shift", desc := "(I)V" } : Jvm.MethodName)) : Cond) ∈ wq_all := List.mem_of_getElem? (i := 900) (by decide +kernel)
set_option maxRecDepth 20000 in
theorem wk_901 : ((Jvm.Cond.instanceMethod ({ cls := "WorkspaceBoxModel", name := "shift", desc := "(I)V" } : Jvm.MethodName)) : Cond) ∈ wq_all := List.mem_of_getElem? (i := 901) (by decide +kernel)
set_option maxRecDepth 20000 in
theorem wk_902 : ((Jvm.Cond.code ({ cls := "WorkspaceBoxModel", name := "shift", desc := "(I)V" } : Jvm.MethodName) prog_9_method_36_code (10 : Nat) (Option.none : Option Jvm.ClassFile.FieldType)) : Cond) ∈ wq_all := List.mem_of_getElem? (i := 902) (by decide +kernel)
set_option maxRecDepth 20000 in
theorem wk_903 : ((Jvm.Cond.methodLink "WorkspaceBoxModel" (227 : Nat) ({ cls := "WorkspaceBoxModel", name := "one", desc := "(I)Z" } : Jvm.MethodName)) : Cond) ∈ wq_all := List.mem_of_getElem? (i := 903) (by decide +kernel)
set_option maxRecDepth 20000 in
theorem wk_904 : ((Jvm.Cond.instanceMethod ({ cls := "WorkspaceBoxModel", name := "one", desc := "(I)Z" } : Jvm.MethodName)) : Cond) ∈ wq_all := List.mem_of_getElem? (i := 904) (by decide +kernel)
set_option maxRecDepth 20000 in
theorem wk_905 : ((Jvm.Cond.code ({ cls := "WorkspaceBoxModel", name := "one", desc := "(I)Z" } : Jvm.MethodName) prog_9_method_37_code (5 : Nat) (Option.some Jvm.ClassFile.FieldType.boolean)) : Cond) ∈ wq_all := List.mem_of_getElem? (i := 905) (by decide +kernel)
set_option maxRecDepth 20000 in
theorem wk_906 : ((Jvm.Cond.methodLink "WorkspaceBoxModel" (199 : Nat) ({ cls := "WorkspaceBoxModel", name := "changes", desc := "(II)V" } : Jvm.MethodName)) : Cond) ∈ wq_all := List.mem_of_getElem? (i := 906) (by decide +kernel)
set_option maxRecDepth 20000 in
theorem wk_907 : ((Jvm.Cond.instanceMethod ({ cls := "WorkspaceBoxModel", name := "changes", desc := "(II)V" } : Jvm.MethodName)) : Cond) ∈ wq_all := List.mem_of_getElem? (i := 907) (by decide +kernel)
set_option maxRecDepth 20000 in
theorem wk_908 : ((Jvm.Cond.code ({ cls := "WorkspaceBoxModel", name := "changes", desc := "(II)V" } : Jvm.MethodName) prog_9_method_38_code (5 : Nat) (Option.none : Option Jvm.ClassFile.FieldType)) : Cond) ∈ wq_all := List.mem_of_getElem? (i := 908) (by decide +kernel)
set_option maxRecDepth 20000 in
theorem wk_909 : ((Jvm.Cond.methodLink "WorkspaceBoxModel" (230 : Nat) ({ cls := "WorkspaceBoxModel", name := "told", desc := "(I)Z" } : Jvm.MethodName)) : Cond) ∈ wq_all := List.mem_of_getElem? (i := 909) (by decide +kernel)
set_option maxRecDepth 20000 in
theorem wk_910 : ((Jvm.Cond.instanceMethod ({ cls := "WorkspaceBoxModel", name := "told", desc := "(I)Z" } : Jvm.MethodName)) : Cond) ∈ wq_all := List.mem_of_getElem? (i := 910) (by decide +kernel)
set_option maxRecDepth 20000 in
theorem wk_911 : ((Jvm.Cond.code ({ cls := "WorkspaceBoxModel", name := "told", desc := "(I)Z" } : Jvm.MethodName) prog_9_method_39_code (4 : Nat) (Option.some Jvm.ClassFile.FieldType.boolean)) : Cond) ∈ wq_all := List.mem_of_getElem? (i := 911) (by decide +kernel)
set_option maxRecDepth 20000 in
theorem wk_912 : ((Jvm.Cond.methodLink "WorkspaceBoxModel" (202 : Nat) ({ cls := "WorkspaceBoxModel", name := "immediate", desc := "(III)V" } : Jvm.MethodName)) : Cond) ∈ wq_all := List.mem_of_getElem? (i := 912) (by decide +kernel)
set_option maxRecDepth 20000 in
theorem wk_913 : ((Jvm.Cond.instanceMethod ({ cls := "WorkspaceBoxModel", name := "immediate", desc := "(III)V" } : Jvm.MethodName)) : Cond) ∈ wq_all := List.mem_of_getElem? (i := 913) (by decide +kernel)
set_option maxRecDepth 20000 in
theorem wk_914 : ((Jvm.Cond.code ({ cls := "WorkspaceBoxModel", name := "immediate", desc := "(III)V" } : Jvm.MethodName) prog_9_method_41_code (6 : Nat) (Option.none : Option Jvm.ClassFile.FieldType)) : Cond) ∈ wq_all := List.mem_of_getElem? (i := 914) (by decide +kernel)
set_option maxRecDepth 20000 in
theorem wk_915 : ((Jvm.Cond.methodLink "WorkspaceBoxModel" (205 : Nat) ({ cls := "WorkspaceBoxModel", name := "comesBack", desc := "()V" } : Jvm.MethodName)) : Cond) ∈ wq_all := List.mem_of_getElem? (i := 915) (by decide +kernel)
set_option maxRecDepth 20000 in
theorem wk_916 : ((Jvm.Cond.instanceMethod ({ cls := "WorkspaceBoxModel", name := "comesBack", desc := "()V" } : Jvm.MethodName)) : Cond) ∈ wq_all := List.mem_of_getElem? (i := 916) (by decide +kernel)
set_option maxRecDepth 20000 in
theorem wk_917 : ((Jvm.Cond.code ({ cls := "WorkspaceBoxModel", name := "comesBack", desc := "()V" } : Jvm.MethodName) prog_9_method_40_code (4 : Nat) (Option.none : Option Jvm.ClassFile.FieldType)) : Cond) ∈ wq_all := List.mem_of_getElem? (i := 917) (by decide +kernel)
set_option maxRecDepth 20000 in
theorem wk_918 : ((Jvm.Cond.constant "WorkspaceBoxModel" (208 : Nat) (65039 : Int32)) : Cond) ∈ wq_all := List.mem_of_getElem? (i := 918) (by decide +kernel)
set_option maxRecDepth 20000 in
theorem wk_919 : ((Jvm.Cond.methodLink "WorkspaceBoxLaw" (28 : Nat) ({ cls := "WorkspaceBoxModel", name := "feed", desc := "(IIIII)I" } : Jvm.MethodName)) : Cond) ∈ wq_all := List.mem_of_getElem? (i := 919) (by decide +kernel)
set_option maxRecDepth 20000 in
theorem wk_920 : ((Jvm.Cond.instanceMethod ({ cls := "WorkspaceBoxModel", name := "feed", desc := "(IIIII)I" } : Jvm.MethodName)) : Cond) ∈ wq_all := List.mem_of_getElem? (i := 920) (by decide +kernel)
set_option maxRecDepth 20000 in
theorem wk_921 : ((Jvm.Cond.selects "WorkspaceBoxModel" ({ cls := "WorkspaceBoxModel", name := "feed", desc := "(IIIII)I" } : Jvm.MethodName) ({ cls := "WorkspaceBoxModel", name := "feed", desc := "(IIIII)I" } : Jvm.MethodName)) : Cond) ∈ wq_all := List.mem_of_getElem? (i := 921) (by decide +kernel)
set_option maxRecDepth 20000 in
theorem wk_922 : ((Jvm.Cond.code ({ cls := "WorkspaceBoxModel", name := "feed", desc := "(IIIII)I" } : Jvm.MethodName) prog_9_method_48_code (8 : Nat) (Option.some Jvm.ClassFile.FieldType.int)) : Cond) ∈ wq_all := List.mem_of_getElem? (i := 922) (by decide +kernel)
set_option maxRecDepth 20000 in
theorem wk_923 : ((Jvm.Cond.methodLink "WorkspaceBoxLaw" (32 : Nat) ({ cls := "WorkspaceBoxModel", name := "end", desc := "(I)I" } : Jvm.MethodName)) : Cond) ∈ wq_all := List.mem_of_getElem? (i := 923) (by decide +kernel)
set_option maxRecDepth 20000 in
theorem wk_924 : ((Jvm.Cond.instanceMethod ({ cls := "WorkspaceBoxModel", name := "end", desc := "(I)I" } : Jvm.MethodName)) : Cond) ∈ wq_all := List.mem_of_getElem? (i := 924) (by decide +kernel)
set_option maxRecDepth 20000 in
theorem wk_925 : ((Jvm.Cond.selects "WorkspaceBoxModel" ({ cls := "WorkspaceBoxModel", name := "end", desc := "(I)I" } : Jvm.MethodName) ({ cls := "WorkspaceBoxModel", name := "end", desc := "(I)I" } : Jvm.MethodName)) : Cond) ∈ wq_all := List.mem_of_getElem? (i := 925) (by decide +kernel)
set_option maxRecDepth 20000 in
theorem wk_926 : ((Jvm.Cond.code ({ cls := "WorkspaceBoxModel", name := "end", desc := "(I)I" } : Jvm.MethodName) prog_9_method_49_code (2 : Nat) (Option.some Jvm.ClassFile.FieldType.int)) : Cond) ∈ wq_all := List.mem_of_getElem? (i := 926) (by decide +kernel)
set_option maxRecDepth 20000 in
theorem wk_927 : ((Jvm.Cond.methodLink "WorkspaceBoxLaw" (37 : Nat) ({ cls := "WorkspaceBoxModel", name := "load", desc := "(II)I" } : Jvm.MethodName)) : Cond) ∈ wq_all := List.mem_of_getElem? (i := 927) (by decide +kernel)
set_option maxRecDepth 20000 in
theorem wk_928 : ((Jvm.Cond.instanceMethod ({ cls := "WorkspaceBoxModel", name := "load", desc := "(II)I" } : Jvm.MethodName)) : Cond) ∈ wq_all := List.mem_of_getElem? (i := 928) (by decide +kernel)
set_option maxRecDepth 20000 in
theorem wk_929 : ((Jvm.Cond.selects "WorkspaceBoxModel" ({ cls := "WorkspaceBoxModel", name := "load", desc := "(II)I" } : Jvm.MethodName) ({ cls := "WorkspaceBoxModel", name := "load", desc := "(II)I" } : Jvm.MethodName)) : Cond) ∈ wq_all := List.mem_of_getElem? (i := 929) (by decide +kernel)
set_option maxRecDepth 20000 in
theorem wk_930 : ((Jvm.Cond.code ({ cls := "WorkspaceBoxModel", name := "load", desc := "(II)I" } : Jvm.MethodName) prog_9_method_50_code (5 : Nat) (Option.some Jvm.ClassFile.FieldType.int)) : Cond) ∈ wq_all := List.mem_of_getElem? (i := 930) (by decide +kernel)
set_option maxRecDepth 20000 in
theorem wk_931 : ((Jvm.Cond.methodLink "WorkspaceBoxLaw" (41 : Nat) ({ cls := "WorkspaceBoxModel", name := "reset", desc := "()V" } : Jvm.MethodName)) : Cond) ∈ wq_all := List.mem_of_getElem? (i := 931) (by decide +kernel)
set_option maxRecDepth 20000 in
theorem wk_932 : ((Jvm.Cond.instanceMethod ({ cls := "WorkspaceBoxModel", name := "reset", desc := "()V" } : Jvm.MethodName)) : Cond) ∈ wq_all := List.mem_of_getElem? (i := 932) (by decide +kernel)
set_option maxRecDepth 20000 in
theorem wk_933 : ((Jvm.Cond.selects "WorkspaceBoxModel" ({ cls := "WorkspaceBoxModel", name := "reset", desc := "()V" } : Jvm.MethodName) ({ cls := "WorkspaceBoxModel", name := "reset", desc := "()V" } : Jvm.MethodName)) : Cond) ∈ wq_all := List.mem_of_getElem? (i := 933) (by decide +kernel)
set_option maxRecDepth 20000 in
theorem wk_934 : ((Jvm.Cond.code ({ cls := "WorkspaceBoxModel", name := "reset", desc := "()V" } : Jvm.MethodName) prog_9_method_51_code (2 : Nat) (Option.none : Option Jvm.ClassFile.FieldType)) : Cond) ∈ wq_all := List.mem_of_getElem? (i := 934) (by decide +kernel)
set_option maxRecDepth 20000 in
theorem wk_935 : ((Jvm.Cond.methodLink "WorkspaceBoxModel" (248 : Nat) ({ cls := "WorkspaceBoxModel", name := "plainWord", desc := "(I)I" } : Jvm.MethodName)) : Cond) ∈ wq_all := List.mem_of_getElem? (i := 935) (by decide +kernel)
set_option maxRecDepth 20000 in
theorem wk_936 : ((Jvm.Cond.instanceMethod ({ cls := "WorkspaceBoxModel", name := "plainWord", desc := "(I)I" } : Jvm.MethodName)) : Cond) ∈ wq_all := List.mem_of_getElem? (i := 936) (by decide +kernel)
