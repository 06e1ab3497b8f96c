set_option maxRecDepth 20000 in
theorem wk_660 : ((Jvm.Cond.constant "WorkspaceBox$Processor" (210 : Nat) (57344 : Int32)) : Cond) ∈ wq_all := List.mem_of_getElem? (i := 660) (by decide +kernel)
set_option maxRecDepth 20000 in
theorem wk_661 : ((Jvm.Cond.methodLink "WorkspaceBox$Processor" (211 : Nat) ({ cls := "WorkspaceBox$Processor", name := "combined", desc := "(IIIZ)I" } : Jvm.MethodName)) : Cond) ∈ wq_all := List.mem_of_getElem? (i := 661) (by decide +kernel)
set_option maxRecDepth 20000 in
theorem wk_662 : ((Jvm.Cond.instanceMethod ({ cls := "WorkspaceBox$Processor", name := "combined", desc := "(IIIZ)I" } : Jvm.MethodName)) : Cond) ∈ wq_all := List.mem_of_getElem? (i := 662) (by decide +kernel)
set_option maxRecDepth 20000 in
theorem wk_663 : ((Jvm.Cond.code ({ cls := "WorkspaceBox$Processor", name := "combined", desc := "(IIIZ)I" } : Jvm.MethodName) prog_6_method_40_code (6 : Nat) (Option.some Jvm.ClassFile.FieldType.int)) : Cond) ∈ wq_all := List.mem_of_getElem? (i := 663) (by decide +kernel)
set_option maxRecDepth 20000 in
theorem wk_664 : ((Jvm.Cond.methodLink "WorkspaceBoxLaw" (65 : Nat) ({ cls := "WorkspaceBoxLaw", name := "vram", desc := "(LWorkspaceBox;I[J)I" } : Jvm.MethodName)) : Cond) ∈ wq_all := List.mem_of_getElem? (i := 664) (by decide +kernel)
set_option maxRecDepth 20000 in
theorem wk_665 : ((Jvm.Cond.static ({ cls := "WorkspaceBoxLaw", name := "vram", desc := "(LWorkspaceBox;I[J)I" } : Jvm.MethodName)) : Cond) ∈ wq_all := List.mem_of_getElem? (i := 665) (by decide +kernel)
set_option maxRecDepth 20000 in
theorem wk_666 : ((Jvm.Cond.codeWith ({ cls := "WorkspaceBoxLaw", name := "vram", desc := "(LWorkspaceBox;I[J)I" } : Jvm.MethodName) method_4_code (4 : Nat) (Option.some Jvm.ClassFile.FieldType.int) [((0 : Nat), (9 : Nat), (12 : Nat), (18 : Nat))]) : Cond) ∈ wq_all := List.mem_of_getElem? (i := 666) (by decide +kernel)
set_option maxRecDepth 20000 in
theorem wk_667 : ((Jvm.Cond.classLink "WorkspaceBoxLaw" (18 : Nat) "java/util/NoSuchElementException") : Cond) ∈ wq_all := List.mem_of_getElem? (i := 667) (by decide +kernel)
set_option maxRecDepth 20000 in
theorem wk_668 : ((Jvm.Cond.methodLink "WorkspaceBoxLaw" (15 : Nat) ({ cls := "WorkspaceBox", name := "vram", desc := "(I)I" } : Jvm.MethodName)) : Cond) ∈ wq_all := List.mem_of_getElem? (i := 668) (by decide +kernel)
set_option maxRecDepth 20000 in
theorem wk_669 : ((Jvm.Cond.instanceMethod ({ cls := "WorkspaceBox", name := "vram", desc := "(I)I" } : Jvm.MethodName)) : Cond) ∈ wq_all := List.mem_of_getElem? (i := 669) (by decide +kernel)
set_option maxRecDepth 20000 in
theorem wk_670 : ((Jvm.Cond.selects "WorkspaceBox" ({ cls := "WorkspaceBox", name := "vram", desc := "(I)I" } : Jvm.MethodName) ({ cls := "WorkspaceBox", name := "vram", desc := "(I)I" } : Jvm.MethodName)) : Cond) ∈ wq_all := List.mem_of_getElem? (i := 670) (by decide +kernel)
set_option maxRecDepth 20000 in
theorem wk_671 : ((Jvm.Cond.code ({ cls := "WorkspaceBox", name := "vram", desc := "(I)I" } : Jvm.MethodName) prog_1_method_14_code (2 : Nat) (Option.some Jvm.ClassFile.FieldType.int)) : Cond) ∈ wq_all := List.mem_of_getElem? (i := 671) (by decide +kernel)
set_option maxRecDepth 20000 in
theorem wk_672 : ((Jvm.Cond.classLink "WorkspaceBox" (152 : Nat) "java/util/NoSuchElementException") : Cond) ∈ wq_all := List.mem_of_getElem? (i := 672) (by decide +kernel)
set_option maxRecDepth 20000 in
theorem wk_673 : ((Jvm.Cond.instantiable "java/util/NoSuchElementException" (6 : Nat)) : Cond) ∈ wq_all := List.mem_of_getElem? (i := 673) (by decide +kernel)
set_option maxRecDepth 20000 in
theorem wk_674 : ((Jvm.Cond.selects "java/util/NoSuchElementException" ({ cls := "java/lang/Throwable", name := "fillInStackTrace", desc := "(I)Ljava/lang/Throwable;" } : Jvm.MethodName) ({ cls := "java/lang/Throwable", name := "fillInStackTrace", desc := "(I)Ljava/lang/Throwable;" } : Jvm.MethodName)) : Cond) ∈ wq_all := List.mem_of_getElem? (i := 674) (by decide +kernel)
set_option maxRecDepth 20000 in
theorem wk_675 : ((Jvm.Cond.lays "java/util/NoSuchElementException" "java/lang/Throwable" "cause" "Ljava/lang/Throwable;") : Cond) ∈ wq_all := List.mem_of_getElem? (i := 675) (by decide +kernel)
set_option maxRecDepth 20000 in
theorem wk_676 : ((Jvm.Cond.lays "java/util/NoSuchElementException" "java/lang/Throwable" "stackTrace" "[Ljava/lang/StackTraceElement;") : Cond) ∈ wq_all := List.mem_of_getElem? (i := 676) (by decide +kernel)
set_option maxRecDepth 20000 in
theorem wk_677 : ((Jvm.Cond.lays "java/util/NoSuchElementException" "java/lang/Throwable" "suppressedExceptions" "Ljava/util/List;") : Cond) ∈ wq_all := List.mem_of_getElem? (i := 677) (by decide +kernel)
set_option maxRecDepth 20000 in
theorem wk_678 : ((Jvm.Cond.lays "java/util/NoSuchElementException" "java/lang/Throwable" "detailMessage" "Ljava/lang/String;") : Cond) ∈ wq_all := List.mem_of_getElem? (i := 678) (by decide +kernel)
set_option maxRecDepth 20000 in
theorem wk_679 : ((Jvm.Cond.lays "java/util/NoSuchElementException" "java/lang/Throwable" "backtrace" "Ljava/lang/Object;") : Cond) ∈ wq_all := List.mem_of_getElem? (i := 679) (by decide +kernel)
set_option maxRecDepth 20000 in
theorem wk_680 : ((Jvm.Cond.methodLink "WorkspaceBox" (156 : Nat) ({ cls := "java/util/NoSuchElementException", name := "<init>", desc := "(Ljava/lang/String;)V" } : Jvm.MethodName)) : Cond) ∈ wq_all := List.mem_of_getElem? (i := 680) (by decide +kernel)
set_option maxRecDepth 20000 in
theorem wk_681 : ((Jvm.Cond.instanceMethod ({ cls := "java/util/NoSuchElementException", name := "<init>", desc := "(Ljava/lang/String;)V" } : Jvm.MethodName)) : Cond) ∈ wq_all := List.mem_of_getElem? (i := 681) (by decide +kernel)
set_option maxRecDepth 20000 in
theorem wk_682 : ((Jvm.Cond.code ({ cls := "java/util/NoSuchElementException", name := "<init>", desc := "(Ljava/lang/String;)V" } : Jvm.MethodName) prog_16_method_4_code (2 : Nat) (Option.none : Option Jvm.ClassFile.FieldType)) : Cond) ∈ wq_all := List.mem_of_getElem? (i := 682) (by decide +kernel)
set_option maxRecDepth 20000 in
theorem wk_683 : ((Jvm.Cond.methodLink "java/util/NoSuchElementException" (13 : Nat) ({ cls := "java/lang/RuntimeException", name := "<init>", desc := "(Ljava/lang/String;)V" } : Jvm.MethodName)) : Cond) ∈ wq_all := List.mem_of_getElem? (i := 683) (by decide +kernel)
set_option maxRecDepth 20000 in
theorem wk_684 : ((Jvm.Cond.lays "java/util/NoSuchElementException" "java/lang/Throwable" "depth" "I") : Cond) ∈ wq_all := List.mem_of_getElem? (i := 684) (by decide +kernel)
set_option maxRecDepth 20000 in
theorem wk_685 : ((Jvm.Cond.superclass "java/util/NoSuchElementException" "java/lang/RuntimeException") : Cond) ∈ wq_all := List.mem_of_getElem? (i := 685) (by decide +kernel)
set_option maxRecDepth 20000 in
theorem wk_686 : ((Jvm.Cond.classLink "WorkspaceBoxLaw" (21 : Nat) "WorkspaceBoxModel") : Cond) ∈ wq_all := List.mem_of_getElem? (i := 686) (by decide +kernel)
set_option maxRecDepth 20000 in
theorem wk_687 : ((Jvm.Cond.instantiable "WorkspaceBoxModel" (26 : Nat)) : Cond) ∈ wq_all := List.mem_of_getElem? (i := 687) (by decide +kernel)
set_option maxRecDepth 20000 in
theorem wk_688 : ((Jvm.Cond.methodLink "WorkspaceBoxLaw" (23 : Nat) ({ cls := "WorkspaceBoxModel", name := "<init>", desc := "()V" } : Jvm.MethodName)) : Cond) ∈ wq_all := List.mem_of_getElem? (i := 688) (by decide +kernel)
set_option maxRecDepth 20000 in
theorem wk_689 : ((Jvm.Cond.instanceMethod ({ cls := "WorkspaceBoxModel", name := "<init>", desc := "()V" } : Jvm.MethodName)) : Cond) ∈ wq_all := List.mem_of_getElem? (i := 689) (by decide +kernel)
set_option maxRecDepth 20000 in
theorem wk_690 : ((Jvm.Cond.code ({ cls := "WorkspaceBoxModel", name := "<init>", desc := "()V" } : Jvm.MethodName) prog_9_method_1_code (1 : Nat) (Option.none : Option Jvm.ClassFile.FieldType)) : Cond) ∈ wq_all := List.mem_of_getElem? (i := 690) (by decide +kernel)
set_option maxRecDepth 20000 in
theorem wk_691 : ((Jvm.Cond.methodLink "WorkspaceBoxModel" (1 : Nat) ({ cls := "java/lang/Object", name := "<init>", desc := "()V" } : Jvm.MethodName)) : Cond) ∈ wq_all := List.mem_of_getElem? (i := 691) (by decide +kernel)
set_option maxRecDepth 20000 in
theorem wk_692 : ((Jvm.Cond.constant "WorkspaceBoxModel" (13 : Nat) (65536 : Int32)) : Cond) ∈ wq_all := List.mem_of_getElem? (i := 692) (by decide +kernel)
set_option maxRecDepth 20000 in
theorem wk_693 : ((Jvm.Cond.fieldLink "WorkspaceBoxModel" (44 : Nat) "WorkspaceBoxModel" "thrown" "I") : Cond) ∈ wq_all := List.mem_of_getElem? (i := 693) (by decide +kernel)
set_option maxRecDepth 20000 in
theorem wk_694 : ((Jvm.Cond.fieldLink "WorkspaceBoxModel" (7 : Nat) "WorkspaceBoxModel" "rom" "[B") : Cond) ∈ wq_all := List.mem_of_getElem? (i := 694) (by decide +kernel)
set_option maxRecDepth 20000 in
theorem wk_695 : ((Jvm.Cond.fieldLink "WorkspaceBoxModel" (14 : Nat) "WorkspaceBoxModel" "ram" "[B") : Cond) ∈ wq_all := List.mem_of_getElem? (i := 695) (by decide +kernel)
set_option maxRecDepth 20000 in
theorem wk_696 : ((Jvm.Cond.fieldLink "WorkspaceBoxModel" (17 : Nat) "WorkspaceBoxModel" "vram" "[B") : Cond) ∈ wq_all := List.mem_of_getElem? (i := 696) (by decide +kernel)
set_option maxRecDepth 20000 in
theorem wk_697 : ((Jvm.Cond.fieldLink "WorkspaceBoxModel" (20 : Nat) "WorkspaceBoxModel" "groms" "[B") : Cond) ∈ wq_all := List.mem_of_getElem? (i := 697) (by decide +kernel)
set_option maxRecDepth 20000 in
theorem wk_698 : ((Jvm.Cond.fieldLink "WorkspaceBoxModel" (80 : Nat) "WorkspaceBoxModel" "pictureAt" "I") : Cond) ∈ wq_all := List.mem_of_getElem? (i := 698) (by decide +kernel)
set_option maxRecDepth 20000 in
theorem wk_699 : ((Jvm.Cond.fieldLink "WorkspaceBoxModel" (83 : Nat) "WorkspaceBoxModel" "pictureBuffer" "I") : Cond) ∈ wq_all := List.mem_of_getElem? (i := 699) (by decide +kernel)
set_option maxRecDepth 20000 in
theorem wk_700 : ((Jvm.Cond.fieldLink "WorkspaceBoxModel" (112 : Nat) "WorkspaceBoxModel" "pictureLatch" "I") : Cond) ∈ wq_all := List.mem_of_getElem? (i := 700) (by decide +kernel)
set_option maxRecDepth 20000 in
theorem wk_701 : ((Jvm.Cond.fieldLink "WorkspaceBoxModel" (95 : Nat) "WorkspaceBoxModel" "pictureFull" "Z") : Cond) ∈ wq_all := List.mem_of_getElem? (i := 701) (by decide +kernel)
set_option maxRecDepth 20000 in
theorem wk_702 : ((Jvm.Cond.fieldLink "WorkspaceBoxModel" (99 : Nat) "WorkspaceBoxModel" "shown" "Z") : Cond) ∈ wq_all := List.mem_of_getElem? (i := 702) (by decide +kernel)
set_option maxRecDepth 20000 in
theorem wk_703 : ((Jvm.Cond.fieldLink "WorkspaceBoxModel" (23 : Nat) "WorkspaceBoxModel" "pictures" "[I") : Cond) ∈ wq_all := List.mem_of_getElem? (i := 703) (by decide +kernel)
set_option maxRecDepth 20000 in
theorem wk_704 : ((Jvm.Cond.fieldLink "WorkspaceBoxModel" (86 : Nat) "WorkspaceBoxModel" "gromAt" "I") : Cond) ∈ wq_all := List.mem_of_getElem? (i := 704) (by decide +kernel)
set_option maxRecDepth 20000 in
theorem wk_705 : ((Jvm.Cond.fieldLink "WorkspaceBoxModel" (89 : Nat) "WorkspaceBoxModel" "gromBuffer" "I") : Cond) ∈ wq_all := List.mem_of_getElem? (i := 705) (by decide +kernel)
set_option maxRecDepth 20000 in
theorem wk_706 : ((Jvm.Cond.fieldLink "WorkspaceBoxModel" (105 : Nat) "WorkspaceBoxModel" "gromFull" "Z") : Cond) ∈ wq_all := List.mem_of_getElem? (i := 706) (by decide +kernel)
set_option maxRecDepth 20000 in
theorem wk_707 : ((Jvm.Cond.fieldLink "WorkspaceBoxModel" (27 : Nat) "WorkspaceBoxModel" "outs" "[Z") : Cond) ∈ wq_all := List.mem_of_getElem? (i := 707) (by decide +kernel)
set_option maxRecDepth 20000 in
theorem wk_708 : ((Jvm.Cond.fieldLink "WorkspaceBoxModel" (31 : Nat) "WorkspaceBoxModel" "keys" "[Z") : Cond) ∈ wq_all := List.mem_of_getElem? (i := 708) (by decide +kernel)
set_option maxRecDepth 20000 in
theorem wk_709 : ((Jvm.Cond.fieldLink "WorkspaceBoxModel" (128 : Nat) "WorkspaceBoxModel" "pc" "I") : Cond) ∈ wq_all := List.mem_of_getElem? (i := 709) (by decide +kernel)
set_option maxRecDepth 20000 in
theorem wk_710 : ((Jvm.Cond.fieldLink "WorkspaceBoxModel" (115 : Nat) "WorkspaceBoxModel" "wp" "I") : Cond) ∈ wq_all := List.mem_of_getElem? (i := 710) (by decide +kernel)
set_option maxRecDepth 20000 in
theorem wk_711 : ((Jvm.Cond.fieldLink "WorkspaceBoxModel" (131 : Nat) "WorkspaceBoxModel" "st" "I") : Cond) ∈ wq_all := List.mem_of_getElem? (i := 711) (by decide +kernel)
set_option maxRecDepth 20000 in
theorem wk_712 : ((Jvm.Cond.fieldLink "WorkspaceBoxModel" (34 : Nat) "WorkspaceBoxModel" "how" "I") : Cond) ∈ wq_all := List.mem_of_getElem? (i := 712) (by decide +kernel)
set_option maxRecDepth 20000 in
theorem wk_713 : ((Jvm.Cond.fieldLink "WorkspaceBoxModel" (242 : Nat) "WorkspaceBoxModel" "doneEver" "I") : Cond) ∈ wq_all := List.mem_of_getElem? (i := 713) (by decide +kernel)
set_option maxRecDepth 20000 in
theorem wk_714 : ((Jvm.Cond.fieldLink "WorkspaceBoxModel" (236 : Nat) "WorkspaceBoxModel" "interrupts" "I") : Cond) ∈ wq_all := List.mem_of_getElem? (i := 714) (by decide +kernel)
set_option maxRecDepth 20000 in
theorem wk_715 : ((Jvm.Cond.fieldLink "WorkspaceBoxModel" (38 : Nat) "WorkspaceBoxModel" "asked" "[Z") : Cond) ∈ wq_all := List.mem_of_getElem? (i := 715) (by decide +kernel)
set_option maxRecDepth 20000 in
theorem wk_716 : ((Jvm.Cond.fieldLink "WorkspaceBoxModel" (180 : Nat) "WorkspaceBoxModel" "behind" "Z") : Cond) ∈ wq_all := List.mem_of_getElem? (i := 716) (by decide +kernel)
set_option maxRecDepth 20000 in
theorem wk_717 : ((Jvm.Cond.fieldLink "WorkspaceBoxModel" (41 : Nat) "WorkspaceBoxModel" "tape" "[I") : Cond) ∈ wq_all := List.mem_of_getElem? (i := 717) (by decide +kernel)
set_option maxRecDepth 20000 in
theorem wk_718 : ((Jvm.Cond.fieldLink "WorkspaceBoxModel" (245 : Nat) "WorkspaceBoxModel" "taped" "I") : Cond) ∈ wq_all := List.mem_of_getElem? (i := 718) (by decide +kernel)
set_option maxRecDepth 20000 in
theorem wk_719 : ((Jvm.Cond.lays "WorkspaceBoxModel" "WorkspaceBoxModel" "thrown" "I") : Cond) ∈ wq_all := List.mem_of_getElem? (i := 719) (by decide +kernel)
set_option maxRecDepth 20000 in
theorem wk_720 : ((Jvm.Cond.soleField "WorkspaceBoxModel" "thrown") : Cond) ∈ wq_all := List.mem_of_getElem? (i := 720) (by decide +kernel)
set_option maxRecDepth 20000 in
theorem wk_721 : ((Jvm.Cond.laysFinal "WorkspaceBoxModel" "WorkspaceBoxModel" "rom" "[B") : Cond) ∈ wq_all := List.mem_of_getElem? (i := 721) (by decide +kernel)
set_option maxRecDepth 20000 in
theorem wk_722 : ((Jvm.Cond.soleField "WorkspaceBoxModel" "rom") : Cond) ∈ wq_all := List.mem_of_getElem? (i := 722) (by decide +kernel)
set_option maxRecDepth 20000 in
theorem wk_723 : ((Jvm.Cond.laysFinal "WorkspaceBoxModel" "WorkspaceBoxModel" "ram" "[B") : Cond) ∈ wq_all := List.mem_of_getElem? (i := 723) (by decide +kernel)
set_option maxRecDepth 20000 in
theorem wk_724 : ((Jvm.Cond.soleField "WorkspaceBoxModel" "ram") : Cond) ∈ wq_all := List.mem_of_getElem? (i := 724) (by decide +kernel)
set_option maxRecDepth 20000 in
theorem wk_725 : ((Jvm.Cond.laysFinal "WorkspaceBoxModel" "WorkspaceBoxModel" "vram" "[B") : Cond) ∈ wq_all := List.mem_of_getElem? (i := 725) (by decide +kernel)
set_option maxRecDepth 20000 in
theorem wk_726 : ((Jvm.Cond.soleField "WorkspaceBoxModel" "vram") : Cond) ∈ wq_all := List.mem_of_getElem? (i := 726) (by decide +kernel)
set_option maxRecDepth 20000 in
theorem wk_727 : ((Jvm.Cond.laysFinal "WorkspaceBoxModel" "WorkspaceBoxModel" "groms" "[B") : Cond) ∈ wq_all := List.mem_of_getElem? (i := 727) (by decide +kernel)
set_option maxRecDepth 20000 in
theorem wk_728 : ((Jvm.Cond.soleField "WorkspaceBoxModel" "groms") : Cond) ∈ wq_all := List.mem_of_getElem? (i := 728) (by decide +kernel)
set_option maxRecDepth 20000 in
theorem wk_729 : ((Jvm.Cond.lays "WorkspaceBoxModel" "WorkspaceBoxModel" "pictureAt" "I") : Cond) ∈ wq_all := List.mem_of_getElem? (i := 729) (by decide +kernel)
set_option maxRecDepth 20000 in
theorem wk_730 : ((Jvm.Cond.soleField "WorkspaceBoxModel" "pictureAt") : Cond) ∈ wq_all := List.mem_of_getElem? (i := 730) (by decide +kernel)
set_option maxRecDepth 20000 in
theorem wk_731 : ((Jvm.Cond.lays "WorkspaceBoxModel" "WorkspaceBoxModel" "pictureBuffer" "I") : Cond) ∈ wq_all := List.mem_of_getElem? (i := 731) (by decide +kernel)
set_option maxRecDepth 20000 in
theorem wk_732 : ((Jvm.Cond.soleField "WorkspaceBoxModel" "pictureBuffer") : Cond) ∈ wq_all := List.mem_of_getElem? (i := 732) (by decide +kernel)
set_option maxRecDepth 20000 in
theorem wk_733 : ((Jvm.Cond.lays "WorkspaceBoxModel" "WorkspaceBoxModel" "pictureLatch" "I") : Cond) ∈ wq_all := List.mem_of_getElem? (i := 733) (by decide +kernel)
set_option maxRecDepth 20000 in
theorem wk_734 : ((Jvm.Cond.soleField "WorkspaceBoxModel" "pictureLatch") : Cond) ∈ wq_all := List.mem_of_getElem? (i := 734) (by decide +kernel)
set_option maxRecDepth 20000 in
theorem wk_735 : ((Jvm.Cond.lays "WorkspaceBoxModel" "WorkspaceBoxModel" "pictureFull" "Z") : Cond) ∈ wq_all := List.mem_of_getElem? (i := 735) (by decide +kernel)
set_option maxRecDepth 20000 in
theorem wk_736 : ((Jvm.Cond.soleField "WorkspaceBoxModel" "pictureFull") : Cond) ∈ wq_all := List.mem_of_getElem? (i := 736) (by decide +kernel)
set_option maxRecDepth 20000 in
theorem wk_737 : ((Jvm.Cond.lays "WorkspaceBoxModel" "WorkspaceBoxModel" "shown" "Z") : Cond) ∈ wq_all := List.mem_of_getElem? (i := 737) (by decide +kernel)
set_option maxRecDepth 20000 in
theorem wk_738 : ((Jvm.Cond.soleField "WorkspaceBoxModel" "shown") : Cond) ∈ wq_all := List.mem_of_getElem? (i := 738) (by decide +kernel)
set_option maxRecDepth 20000 in
theorem wk_739 : ((Jvm.Cond.laysFinal "WorkspaceBoxModel" "WorkspaceBoxModel" "pictures" "[I") : Cond) ∈ wq_all := List.mem_of_getElem? (i := 739) (by decide +kernel)
set_option maxRecDepth 20000 in
theorem wk_740 : ((Jvm.Cond.soleField "WorkspaceBoxModel" "pictures") : Cond) ∈ wq_all := List.mem_of_getElem? (i := 740) (by decide +kernel)
set_option maxRecDepth 20000 in
theorem wk_741 : ((Jvm.Cond.lays "WorkspaceBoxModel" "WorkspaceBoxModel" "gromAt" "I") : Cond) ∈ wq_all := List.mem_of_getElem? (i := 741) (by decide +kernel)
set_option maxRecDepth 20000 in
theorem wk_742 : ((Jvm.Cond.soleField "WorkspaceBoxModel" "gromAt") : Cond) ∈ wq_all := List.mem_of_getElem? (i := 742) (by decide +kernel)
set_option maxRecDepth 20000 in
theorem wk_743 : ((Jvm.Cond.lays "WorkspaceBoxModel" "WorkspaceBoxModel" "gromBuffer" "I") : Cond) ∈ wq_all := List.mem_of_getElem? (i := 743) (by decide +kernel)
set_option maxRecDepth 20000 in
theorem wk_744 : ((Jvm.Cond.soleField "WorkspaceBoxModel" "gromBuffer") : Cond) ∈ wq_all := List.mem_of_getElem? (i := 744) (by decide +kernel)
set_option maxRecDepth 20000 in
theorem wk_745 : ((Jvm.Cond.lays "WorkspaceBoxModel" "WorkspaceBoxModel" "gromFull" "Z") : Cond) ∈ wq_all := List.mem_of_getElem? (i := 745) (by decide +kernel)
set_option maxRecDepth 20000 in
theorem wk_746 : ((Jvm.Cond.soleField "WorkspaceBoxModel" "gromFull") : Cond) ∈ wq_all := List.mem_of_getElem? (i := 746) (by decide +kernel)
set_option maxRecDepth 20000 in
theorem wk_747 : ((Jvm.Cond.laysFinal "WorkspaceBoxModel" "WorkspaceBoxModel" "outs" "[Z") : Cond) ∈ wq_all := List.mem_of_getElem? (i := 747) (by decide +kernel)
set_option maxRecDepth 20000 in
theorem wk_748 : ((Jvm.Cond.soleField "WorkspaceBoxModel" "outs") : Cond) ∈ wq_all := List.mem_of_getElem? (i := 748) (by decide +kernel)
set_option maxRecDepth 20000 in
theorem wk_749 : ((Jvm.Cond.laysFinal "WorkspaceBoxModel" "WorkspaceBoxModel" "keys" "[Z") : Cond) ∈ wq_all := List.mem_of_getElem? (i := 749) (by decide +kernel)
set_option maxRecDepth 20000 in
theorem wk_750 : ((Jvm.Cond.soleField "WorkspaceBoxModel" "keys") : Cond) ∈ wq_all := List.mem_of_getElem? (i := 750) (by decide +kernel)
set_option maxRecDepth 20000 in
theorem wk_751 : ((Jvm.Cond.lays "WorkspaceBoxModel" "WorkspaceBoxModel" "pc" "I") : Cond) ∈ wq_all := List.mem_of_getElem? (i := 751) (by decide +kernel)
set_option maxRecDepth 20000 in
theorem wk_752 : ((Jvm.Cond.soleField "WorkspaceBoxModel" "pc") : Cond) ∈ wq_all := List.mem_of_getElem? (i := 752) (by decide +kernel)
set_option maxRecDepth 20000 in
theorem wk_753 : ((Jvm.Cond.lays "WorkspaceBoxModel" "WorkspaceBoxModel" "wp" "I") : Cond) ∈ wq_all := List.mem_of_getElem? (i := 753) (by decide +kernel)
set_option maxRecDepth 20000 in
theorem wk_754 : ((Jvm.Cond.soleField "WorkspaceBoxModel" "wp") : Cond) ∈ wq_all := List.mem_of_getElem? (i := 754) (by decide +kernel)
set_option maxRecDepth 20000 in
theorem wk_755 : ((Jvm.Cond.lays "WorkspaceBoxModel" "WorkspaceBoxModel" "st" "I") : Cond) ∈ wq_all := List.mem_of_getElem? (i := 755) (by decide +kernel)
set_option maxRecDepth 20000 in
theorem wk_756 : ((Jvm.Cond.soleField "WorkspaceBoxModel" "st") : Cond) ∈ wq_all := List.mem_of_getElem? (i := 756) (by decide +kernel)
set_option maxRecDepth 20000 in
theorem wk_757 : ((Jvm.Cond.lays "WorkspaceBoxModel" "WorkspaceBoxModel" "how" "I") : Cond) ∈ wq_all := List.mem_of_getElem? (i := 757) (by decide +kernel)
set_option maxRecDepth 20000 in
theorem wk_758 : ((Jvm.Cond.soleField "WorkspaceBoxModel" "how") : Cond) ∈ wq_all := List.mem_of_getElem? (i := 758) (by decide +kernel)
set_option maxRecDepth 20000 in
theorem wk_759 : ((Jvm.Cond.lays "WorkspaceBoxModel" "WorkspaceBoxModel" "doneEver" "I") : Cond) ∈ wq_all := List.mem_of_getElem? (i := 759) (by decide +kernel)
set_option maxRecDepth 20000 in
theorem wk_760 : ((Jvm.Cond.soleField "WorkspaceBoxModel" "doneEver") : Cond) ∈ wq_all := List.mem_of_getElem? (i := 760) (by decide +kernel)
set_option maxRecDepth 20000 in
theorem wk_761 : ((Jvm.Cond.lays "WorkspaceBoxModel" "WorkspaceBoxModel" "interrupts" "I") : Cond) ∈ wq_all := List.mem_of_getElem? (i := 761) (by decide +kernel)
set_option maxRecDepth 20000 in
theorem wk_762 : ((Jvm.Cond.soleField "WorkspaceBoxModel" "interrupts") : Cond) ∈ wq_all := List.mem_of_getElem? (i := 762) (by decide +kernel)
set_option maxRecDepth 20000 in
theorem wk_763 : ((Jvm.Cond.laysFinal "WorkspaceBoxModel" "WorkspaceBoxModel" "asked" "[Z") : Cond) ∈ wq_all := List.mem_of_getElem? (i := 763) (by decide +kernel)
set_option maxRecDepth 20000 in
theorem wk_764 : ((Jvm.Cond.soleField "WorkspaceBoxModel" "asked") : Cond) ∈ wq_all := List.mem_of_getElem? (i := 764) (by decide +kernel)
set_option maxRecDepth 20000 in
theorem wk_765 : ((Jvm.Cond.lays "WorkspaceBoxModel" "WorkspaceBoxModel" "behind" "Z") : Cond) ∈ wq_all := List.mem_of_getElem? (i := 765) (by decide +kernel)
set_option maxRecDepth 20000 in
theorem wk_766 : ((Jvm.Cond.soleField "WorkspaceBoxModel" "behind") : Cond) ∈ wq_all := List.mem_of_getElem? (i := 766) (by decide +kernel)
set_option maxRecDepth 20000 in
theorem wk_767 : ((Jvm.Cond.laysFinal "WorkspaceBoxModel" "WorkspaceBoxModel" "tape" "[I") : Cond) ∈ wq_all := List.mem_of_getElem? (i := 767) (by decide +kernel)
set_option maxRecDepth 20000 in
theorem wk_768 : ((Jvm.Cond.soleField "WorkspaceBoxModel" "tape") : Cond) ∈ wq_all := List.mem_of_getElem? (i := 768) (by decide +kernel)
set_option maxRecDepth 20000 in
theorem wk_769 : ((Jvm.Cond.lays "WorkspaceBoxModel" "WorkspaceBoxModel" "taped" "I") : Cond) ∈ wq_all := List.mem_of_getElem? (i := 769) (by decide +kernel)
set_option maxRecDepth 20000 in
theorem wk_770 : ((Jvm.Cond.soleField "WorkspaceBoxModel" "taped") : Cond) ∈ wq_all := List.mem_of_getElem? (i := 770) (by decide +kernel)
set_option maxRecDepth 20000 in
theorem wk_771 : ((Jvm.Cond.superclass "WorkspaceBoxModel" "java/lang/Object") : Cond) ∈ wq_all := List.mem_of_getElem? (i := 771) (by decide +kernel)
set_option maxRecDepth 20000 in
theorem wk_772 : ((Jvm.Cond.arrayClass Jvm.ClassFile.FieldType.boolean) : Cond) ∈ wq_all := List.mem_of_getElem? (i := 772) (by decide +kernel)
set_option maxRecDepth 20000 in
theorem wk_773 : ((Jvm.Cond.methodLink "WorkspaceBoxLaw" (47 : Nat) ({ cls := "WorkspaceBoxModel", name := "run", desc := "(I)I" } : Jvm.MethodName)) : Cond) ∈ wq_all := List.mem_of_getElem? (i := 773) (by decide +kernel)
set_option maxRecDepth 20000 in
theorem wk_774 : ((Jvm.Cond.instanceMethod ({ cls := "WorkspaceBoxModel", name := "run", desc := "(I)I" } : Jvm.MethodName)) : Cond) ∈ wq_all := List.mem_of_getElem? (i := 774) (by decide +kernel)
set_option maxRecDepth 20000 in
theorem wk_775 : ((Jvm.Cond.selects "WorkspaceBoxModel" ({ cls := "WorkspaceBoxModel", name := "run", desc := "(I)I" } : Jvm.MethodName) ({ cls := "WorkspaceBoxModel", name := "run", desc := "(I)I" } : Jvm.MethodName)) : Cond) ∈ wq_all := List.mem_of_getElem? (i := 775) (by decide +kernel)
set_option maxRecDepth 20000 in
theorem wk_776 : ((Jvm.Cond.code ({ cls := "WorkspaceBoxModel", name := "run", desc := "(I)I" } : Jvm.MethodName) prog_9_method_47_code (4 : Nat) (Option.some Jvm.ClassFile.FieldType.int)) : Cond) ∈ wq_all := List.mem_of_getElem? (i := 776) (by decide +kernel)
set_option maxRecDepth 20000 in
theorem wk_777 : ((Jvm.Cond.methodLink "WorkspaceBoxModel" (47 : Nat) ({ cls := "WorkspaceBoxModel", name := "in", desc := "(III)Z" } : Jvm.MethodName)) : Cond) ∈ wq_all := List.mem_of_getElem? (i := 777) (by decide +kernel)
set_option maxRecDepth 20000 in
theorem wk_778 : ((Jvm.Cond.static ({ cls := "WorkspaceBoxModel", name := "in", desc := "(III)Z" } : Jvm.MethodName)) : Cond) ∈ wq_all := List.mem_of_getElem? (i := 778) (by decide +kernel)
set_option maxRecDepth 20000 in
theorem wk_779 : ((Jvm.Cond.code ({ cls := "WorkspaceBoxModel", name := "in", desc := "(III)Z" } : Jvm.MethodName) prog_9_method_3_code (3 : Nat) (Option.some Jvm.ClassFile.FieldType.boolean)) : Cond) ∈ wq_all := List.mem_of_getElem? (i := 779) (by decide +kernel)
set_option maxRecDepth 20000 in
theorem wk_780 : ((Jvm.Cond.methodLink "WorkspaceBoxModel" (239 : Nat) ({ cls := "WorkspaceBoxModel", name := "interrupted", desc := "()V" } : Jvm.MethodName)) : Cond) ∈ wq_all := List.mem_of_getElem? (i := 780) (by decide +kernel)
set_option maxRecDepth 20000 in
theorem wk_781 : ((Jvm.Cond.instanceMethod ({ cls := "WorkspaceBoxModel", name := "interrupted", desc := "()V" } : Jvm.MethodName)) : Cond) ∈ wq_all := List.mem_of_getElem? (i := 781) (by decide +kernel)
set_option maxRecDepth 20000 in
theorem wk_782 : ((Jvm.Cond.code ({ cls := "WorkspaceBoxModel", name := "interrupted", desc := "()V" } : Jvm.MethodName) prog_9_method_46_code (2 : Nat) (Option.none : Option Jvm.ClassFile.FieldType)) : Cond) ∈ wq_all := List.mem_of_getElem? (i := 782) (by decide +kernel)
set_option maxRecDepth 20000 in
theorem wk_783 : ((Jvm.Cond.methodLink "WorkspaceBoxModel" (233 : Nat) ({ cls := "WorkspaceBoxModel", name := "isAsked", desc := "(I)Z" } : Jvm.MethodName)) : Cond) ∈ wq_all := List.mem_of_getElem? (i := 783) (by decide +kernel)
set_option maxRecDepth 20000 in
theorem wk_784 : ((Jvm.Cond.instanceMethod ({ cls := "WorkspaceBoxModel", name := "isAsked", desc := "(I)Z" } : Jvm.MethodName)) : Cond) ∈ wq_all := List.mem_of_getElem? (i := 784) (by decide +kernel)
set_option maxRecDepth 20000 in
theorem wk_785 : ((Jvm.Cond.code ({ cls := "WorkspaceBoxModel", name := "isAsked", desc := "(I)Z" } : Jvm.MethodName) prog_9_method_45_code (2 : Nat) (Option.some Jvm.ClassFile.FieldType.boolean)) : Cond) ∈ wq_all := List.mem_of_getElem? (i := 785) (by decide +kernel)
set_option maxRecDepth 20000 in
theorem wk_786 : ((Jvm.Cond.methodLink "WorkspaceBoxModel" (177 : Nat) ({ cls := "WorkspaceBoxModel", name := "enter", desc := "(I)V" } : Jvm.MethodName)) : Cond) ∈ wq_all := List.mem_of_getElem? (i := 786) (by decide +kernel)
set_option maxRecDepth 20000 in
theorem wk_787 : ((Jvm.Cond.instanceMethod ({ cls := "WorkspaceBoxModel", name := "enter", desc := "(I)V" } : Jvm.MethodName)) : Cond) ∈ wq_all := List.mem_of_getElem? (i := 787) (by decide +kernel)
set_option maxRecDepth 20000 in
theorem wk_788 : ((Jvm.Cond.code ({ cls := "WorkspaceBoxModel", name := "enter", desc := "(I)V" } : Jvm.MethodName) prog_9_method_30_code (5 : Nat) (Option.none : Option Jvm.ClassFile.FieldType)) : Cond) ∈ wq_all := List.mem_of_getElem? (i := 788) (by decide +kernel)
set_option maxRecDepth 20000 in
theorem wk_789 : ((Jvm.Cond.methodLink "WorkspaceBoxModel" (122 : Nat) ({ cls := "WorkspaceBoxModel", name := "readWord", desc := "(I)I" } : Jvm.MethodName)) : Cond) ∈ wq_all := List.mem_of_getElem? (i := 789) (by decide +kernel)
set_option maxRecDepth 20000 in
theorem wk_790 : ((Jvm.Cond.instanceMethod ({ cls := "WorkspaceBoxModel", name := "readWord", desc := "(I)I" } : Jvm.MethodName)) : Cond) ∈ wq_all := List.mem_of_getElem? (i := 790) (by decide +kernel)
set_option maxRecDepth 20000 in
theorem wk_791 : ((Jvm.Cond.code ({ cls := "WorkspaceBoxModel", name := "readWord", desc := "(I)I" } : Jvm.MethodName) prog_9_method_8_code (4 : Nat) (Option.some Jvm.ClassFile.FieldType.int)) : Cond) ∈ wq_all := List.mem_of_getElem? (i := 791) (by decide +kernel)
set_option maxRecDepth 20000 in
theorem wk_792 : ((Jvm.Cond.constant "WorkspaceBoxModel" (72 : Nat) (65534 : Int32)) : Cond) ∈ wq_all := List.mem_of_getElem? (i := 792) (by decide +kernel)
set_option maxRecDepth 20000 in
theorem wk_793 : ((Jvm.Cond.methodLink "WorkspaceBoxModel" (73 : Nat) ({ cls := "WorkspaceBoxModel", name := "readByte", desc := "(I)I" } : Jvm.MethodName)) : Cond) ∈ wq_all := List.mem_of_getElem? (i := 793) (by decide +kernel)
set_option maxRecDepth 20000 in
theorem wk_794 : ((Jvm.Cond.instanceMethod ({ cls := "WorkspaceBoxModel", name := "readByte", desc := "(I)I" } : Jvm.MethodName)) : Cond) ∈ wq_all := List.mem_of_getElem? (i := 794) (by decide +kernel)
set_option maxRecDepth 20000 in
theorem wk_795 : ((Jvm.Cond.code ({ cls := "WorkspaceBoxModel", name := "readByte", desc := "(I)I" } : Jvm.MethodName) prog_9_method_6_code (2 : Nat) (Option.some Jvm.ClassFile.FieldType.int)) : Cond) ∈ wq_all := List.mem_of_getElem? (i := 795) (by decide +kernel)
set_option maxRecDepth 20000 in
theorem wk_796 : ((Jvm.Cond.methodLink "WorkspaceBoxModel" (56 : Nat) ({ cls := "WorkspaceBoxModel", name := "isPort", desc := "(I)Z" } : Jvm.MethodName)) : Cond) ∈ wq_all := List.mem_of_getElem? (i := 796) (by decide +kernel)
set_option maxRecDepth 20000 in
theorem wk_797 : ((Jvm.Cond.static ({ cls := "WorkspaceBoxModel", name := "isPort", desc := "(I)Z" } : Jvm.MethodName)) : Cond) ∈ wq_all := List.mem_of_getElem? (i := 797) (by decide +kernel)
set_option maxRecDepth 20000 in
theorem wk_798 : ((Jvm.Cond.code ({ cls := "WorkspaceBoxModel", name := "isPort", desc := "(I)Z" } : Jvm.MethodName) prog_9_method_5_code (1 : Nat) (Option.some Jvm.ClassFile.FieldType.boolean)) : Cond) ∈ wq_all := List.mem_of_getElem? (i := 798) (by decide +kernel)
set_option maxRecDepth 20000 in
theorem wk_799 : ((Jvm.Cond.constant "WorkspaceBoxModel" (54 : Nat) (34816 : Int32)) : Cond) ∈ wq_all := List.mem_of_getElem? (i := 799) (by decide +kernel)
set_option maxRecDepth 20000 in
theorem wk_800 : ((Jvm.Cond.constant "WorkspaceBoxModel" (55 : Nat) (40959 : Int32)) : Cond) ∈ wq_all := List.mem_of_getElem? (i := 800) (by decide +kernel)
set_option maxRecDepth 20000 in
theorem wk_801 : ((Jvm.Cond.methodLink "WorkspaceBoxModel" (60 : Nat) ({ cls := "WorkspaceBoxModel", name := "readPort", desc := "(II)I" } : Jvm.MethodName)) : Cond) ∈ wq_all := List.mem_of_getElem? (i := 801) (by decide +kernel)
set_option maxRecDepth 20000 in
theorem wk_802 : ((Jvm.Cond.instanceMethod ({ cls := "WorkspaceBoxModel", name := "readPort", desc := "(II)I" } : Jvm.MethodName)) : Cond) ∈ wq_all := List.mem_of_getElem? (i := 802) (by decide +kernel)
set_option maxRecDepth 20000 in
theorem wk_803 : ((Jvm.Cond.code ({ cls := "WorkspaceBoxModel", name := "readPort", desc := "(II)I" } : Jvm.MethodName) prog_9_method_12_code (4 : Nat) (Option.some Jvm.ClassFile.FieldType.int)) : Cond) ∈ wq_all := List.mem_of_getElem? (i := 803) (by decide +kernel)
set_option maxRecDepth 20000 in
theorem wk_804 : ((Jvm.Cond.methodLink "WorkspaceBoxModel" (92 : Nat) ({ cls := "WorkspaceBoxModel", name := "nextPicture", desc := "()V" } : Jvm.MethodName)) : Cond) ∈ wq_all := List.mem_of_getElem? (i := 804) (by decide +kernel)
set_option maxRecDepth 20000 in
theorem wk_805 : ((Jvm.Cond.instanceMethod ({ cls := "WorkspaceBoxModel", name := "nextPicture", desc := "()V" } : Jvm.MethodName)) : Cond) ∈ wq_all := List.mem_of_getElem? (i := 805) (by decide +kernel)
set_option maxRecDepth 20000 in
theorem wk_806 : ((Jvm.Cond.code ({ cls := "WorkspaceBoxModel", name := "nextPicture", desc := "()V" } : Jvm.MethodName) prog_9_method_10_code (1 : Nat) (Option.none : Option Jvm.ClassFile.FieldType)) : Cond) ∈ wq_all := List.mem_of_getElem? (i := 806) (by decide +kernel)
set_option maxRecDepth 20000 in
theorem wk_807 : ((Jvm.Cond.methodLink "WorkspaceBoxModel" (102 : Nat) ({ cls := "WorkspaceBoxModel", name := "nextGrom", desc := "()V" } : Jvm.MethodName)) : Cond) ∈ wq_all := List.mem_of_getElem? (i := 807) (by decide +kernel)
set_option maxRecDepth 20000 in
theorem wk_808 : ((Jvm.Cond.instanceMethod ({ cls := "WorkspaceBoxModel", name := "nextGrom", desc := "()V" } : Jvm.MethodName)) : Cond) ∈ wq_all := List.mem_of_getElem? (i := 808) (by decide +kernel)
set_option maxRecDepth 20000 in
theorem wk_809 : ((Jvm.Cond.code ({ cls := "WorkspaceBoxModel", name := "nextGrom", desc := "()V" } : Jvm.MethodName) prog_9_method_11_code (1 : Nat) (Option.none : Option Jvm.ClassFile.FieldType)) : Cond) ∈ wq_all := List.mem_of_getElem? (i := 809) (by decide +kernel)
set_option maxRecDepth 20000 in
theorem wk_810 : ((Jvm.Cond.methodLink "WorkspaceBoxModel" (64 : Nat) ({ cls := "WorkspaceBoxModel", name := "plain", desc := "(I)I" } : Jvm.MethodName)) : Cond) ∈ wq_all := List.mem_of_getElem? (i := 810) (by decide +kernel)
set_option maxRecDepth 20000 in
theorem wk_811 : ((Jvm.Cond.instanceMethod ({ cls := "WorkspaceBoxModel", name := "plain", desc := "(I)I" } : Jvm.MethodName)) : Cond) ∈ wq_all := List.mem_of_getElem? (i := 811) (by decide +kernel)
set_option maxRecDepth 20000 in
theorem wk_812 : ((Jvm.Cond.code ({ cls := "WorkspaceBoxModel", name := "plain", desc := "(I)I" } : Jvm.MethodName) prog_9_method_4_code (2 : Nat) (Option.some Jvm.ClassFile.FieldType.int)) : Cond) ∈ wq_all := List.mem_of_getElem? (i := 812) (by decide +kernel)
set_option maxRecDepth 20000 in
theorem wk_813 : ((Jvm.Cond.constant "WorkspaceBoxModel" (51 : Nat) (40960 : Int32)) : Cond) ∈ wq_all := List.mem_of_getElem? (i := 813) (by decide +kernel)
set_option maxRecDepth 20000 in
theorem wk_814 : ((Jvm.Cond.constant "WorkspaceBoxModel" (52 : Nat) (32768 : Int32)) : Cond) ∈ wq_all := List.mem_of_getElem? (i := 814) (by decide +kernel)
set_option maxRecDepth 20000 in
theorem wk_815 : ((Jvm.Cond.constant "WorkspaceBoxModel" (53 : Nat) (33791 : Int32)) : Cond) ∈ wq_all := List.mem_of_getElem? (i := 815) (by decide +kernel)
set_option maxRecDepth 20000 in
theorem wk_816 : ((Jvm.Cond.constant "WorkspaceBoxModel" (118 : Nat) (65535 : Int32)) : Cond) ∈ wq_all := List.mem_of_getElem? (i := 816) (by decide +kernel)
set_option maxRecDepth 20000 in
theorem wk_817 : ((Jvm.Cond.methodLink "WorkspaceBoxModel" (149 : Nat) ({ cls := "WorkspaceBoxModel", name := "register", desc := "(II)V" } : Jvm.MethodName)) : Cond) ∈ wq_all := List.mem_of_getElem? (i := 817) (by decide +kernel)
set_option maxRecDepth 20000 in
theorem wk_818 : ((Jvm.Cond.instanceMethod ({ cls := "WorkspaceBoxModel", name := "register", desc := "(II)V" } : Jvm.MethodName)) : Cond) ∈ wq_all := List.mem_of_getElem? (i := 818) (by decide +kernel)
set_option maxRecDepth 20000 in
theorem wk_819 : ((Jvm.Cond.code ({ cls := "WorkspaceBoxModel", name := "register", desc := "(II)V" } : Jvm.MethodName) prog_9_method_18_code (3 : Nat) (Option.none : Option Jvm.ClassFile.FieldType)) : Cond) ∈ wq_all := List.mem_of_getElem? (i := 819) (by decide +kernel)
set_option maxRecDepth 20000 in
theorem wk_820 : ((Jvm.Cond.methodLink "WorkspaceBoxModel" (119 : Nat) ({ cls := "WorkspaceBoxModel", name := "registerAt", desc := "(I)I" } : Jvm.MethodName)) : Cond) ∈ wq_all := List.mem_of_getElem? (i := 820) (by decide +kernel)
set_option maxRecDepth 20000 in
theorem wk_821 : ((Jvm.Cond.instanceMethod ({ cls := "WorkspaceBoxModel", name := "registerAt", desc := "(I)I" } : Jvm.MethodName)) : Cond) ∈ wq_all := List.mem_of_getElem? (i := 821) (by decide +kernel)
set_option maxRecDepth 20000 in
theorem wk_822 : ((Jvm.Cond.code ({ cls := "WorkspaceBoxModel", name := "registerAt", desc := "(I)I" } : Jvm.MethodName) prog_9_method_16_code (2 : Nat) (Option.some Jvm.ClassFile.FieldType.int)) : Cond) ∈ wq_all := List.mem_of_getElem? (i := 822) (by decide +kernel)
set_option maxRecDepth 20000 in
theorem wk_823 : ((Jvm.Cond.methodLink "WorkspaceBoxModel" (125 : Nat) ({ cls := "WorkspaceBoxModel", name := "writeWord", desc := "(II)V" } : Jvm.MethodName)) : Cond) ∈ wq_all := List.mem_of_getElem? (i := 823) (by decide +kernel)
set_option maxRecDepth 20000 in
theorem wk_824 : ((Jvm.Cond.instanceMethod ({ cls := "WorkspaceBoxModel", name := "writeWord", desc := "(II)V" } : Jvm.MethodName)) : Cond) ∈ wq_all := List.mem_of_getElem? (i := 824) (by decide +kernel)
set_option maxRecDepth 20000 in
theorem wk_825 : ((Jvm.Cond.code ({ cls := "WorkspaceBoxModel", name := "writeWord", desc := "(II)V" } : Jvm.MethodName) prog_9_method_9_code (4 : Nat) (Option.none : Option Jvm.ClassFile.FieldType)) : Cond) ∈ wq_all := List.mem_of_getElem? (i := 825) (by decide +kernel)
set_option maxRecDepth 20000 in
theorem wk_826 : ((Jvm.Cond.methodLink "WorkspaceBoxModel" (76 : Nat) ({ cls := "WorkspaceBoxModel", name := "writeByte", desc := "(II)V" } : Jvm.MethodName)) : Cond) ∈ wq_all := List.mem_of_getElem? (i := 826) (by decide +kernel)
set_option maxRecDepth 20000 in
theorem wk_827 : ((Jvm.Cond.instanceMethod ({ cls := "WorkspaceBoxModel", name := "writeByte", desc := "(II)V" } : Jvm.MethodName)) : Cond) ∈ wq_all := List.mem_of_getElem? (i := 827) (by decide +kernel)
set_option maxRecDepth 20000 in
theorem wk_828 : ((Jvm.Cond.code ({ cls := "WorkspaceBoxModel", name := "writeByte", desc := "(II)V" } : Jvm.MethodName) prog_9_method_7_code (3 : Nat) (Option.none : Option Jvm.ClassFile.FieldType)) : Cond) ∈ wq_all := List.mem_of_getElem? (i := 828) (by decide +kernel)
set_option maxRecDepth 20000 in
theorem wk_829 : ((Jvm.Cond.methodLink "WorkspaceBoxModel" (68 : Nat) ({ cls := "WorkspaceBoxModel", name := "writePort", desc := "(III)V" } : Jvm.MethodName)) : Cond) ∈ wq_all := List.mem_of_getElem? (i := 829) (by decide +kernel)
set_option maxRecDepth 20000 in
theorem wk_830 : ((Jvm.Cond.instanceMethod ({ cls := "WorkspaceBoxModel", name := "writePort", desc := "(III)V" } : Jvm.MethodName)) : Cond) ∈ wq_all := List.mem_of_getElem? (i := 830) (by decide +kernel)
set_option maxRecDepth 20000 in
theorem wk_831 : ((Jvm.Cond.code ({ cls := "WorkspaceBoxModel", name := "writePort", desc := "(III)V" } : Jvm.MethodName) prog_9_method_13_code (4 : Nat) (Option.none : Option Jvm.ClassFile.FieldType)) : Cond) ∈ wq_all := List.mem_of_getElem? (i := 831) (by decide +kernel)
set_option maxRecDepth 20000 in
theorem wk_832 : ((Jvm.Cond.methodLink "WorkspaceBoxModel" (108 : Nat) ({ cls := "WorkspaceBoxModel", name := "commands", desc := "(I)V" } : Jvm.MethodName)) : Cond) ∈ wq_all := List.mem_of_getElem? (i := 832) (by decide +kernel)
set_option maxRecDepth 20000 in
theorem wk_833 : ((Jvm.Cond.instanceMethod ({ cls := "WorkspaceBoxModel", name := "commands", desc := "(I)V" } : Jvm.MethodName)) : Cond) ∈ wq_all := List.mem_of_getElem? (i := 833) (by decide +kernel)
set_option maxRecDepth 20000 in
theorem wk_834 : ((Jvm.Cond.code ({ cls := "WorkspaceBoxModel", name := "commands", desc := "(I)V" } : Jvm.MethodName) prog_9_method_14_code (2 : Nat) (Option.none : Option Jvm.ClassFile.FieldType)) : Cond) ∈ wq_all := List.mem_of_getElem? (i := 834) (by decide +kernel)
set_option maxRecDepth 20000 in
theorem wk_835 : ((Jvm.Cond.methodLink "WorkspaceBoxModel" (142 : Nat) ({ cls := "WorkspaceBoxModel", name := "nextWord", desc := "()I" } : Jvm.MethodName)) : Cond) ∈ wq_all := List.mem_of_getElem? (i := 835) (by decide +kernel)
set_option maxRecDepth 20000 in
theorem wk_836 : ((Jvm.Cond.instanceMethod ({ cls := "WorkspaceBoxModel", name := "nextWord", desc := "()I" } : Jvm.MethodName)) : Cond) ∈ wq_all := List.mem_of_getElem? (i := 836) (by decide +kernel)
set_option maxRecDepth 20000 in
theorem wk_837 : ((Jvm.Cond.code ({ cls := "WorkspaceBoxModel", name := "nextWord", desc := "()I" } : Jvm.MethodName) prog_9_method_19_code (2 : Nat) (Option.some Jvm.ClassFile.FieldType.int)) : Cond) ∈ wq_all := List.mem_of_getElem? (i := 837) (by decide +kernel)
set_option maxRecDepth 20000 in
theorem wk_838 : ((Jvm.Cond.methodLink "WorkspaceBoxModel" (196 : Nat) ({ cls := "WorkspaceBoxModel", name := "does", desc := "(I)Z" } : Jvm.MethodName)) : Cond) ∈ wq_all := List.mem_of_getElem? (i := 838) (by decide +kernel)
set_option maxRecDepth 20000 in
theorem wk_839 : ((Jvm.Cond.instanceMethod ({ cls := "WorkspaceBoxModel", name := "does", desc := "(I)Z" } : Jvm.MethodName)) : Cond) ∈ wq_all := List.mem_of_getElem? (i := 839) (by decide +kernel)
set_option maxRecDepth 20000 in
theorem wk_840 : ((Jvm.Cond.code ({ cls := "WorkspaceBoxModel", name := "does", desc := "(I)Z" } : Jvm.MethodName) prog_9_method_44_code (2 : Nat) (Option.some Jvm.ClassFile.FieldType.boolean)) : Cond) ∈ wq_all := List.mem_of_getElem? (i := 840) (by decide +kernel)
set_option maxRecDepth 20000 in
theorem wk_841 : ((Jvm.Cond.methodLink "WorkspaceBoxModel" (215 : Nat) ({ cls := "WorkspaceBoxModel", name := "two", desc := "(I)Z" } : Jvm.MethodName)) : Cond) ∈ wq_all := List.mem_of_getElem? (i := 841) (by decide +kernel)
set_option maxRecDepth 20000 in
theorem wk_842 : ((Jvm.Cond.instanceMethod ({ cls := "WorkspaceBoxModel", name := "two", desc := "(I)Z" } : Jvm.MethodName)) : Cond) ∈ wq_all := List.mem_of_getElem? (i := 842) (by decide +kernel)
set_option maxRecDepth 20000 in
theorem wk_843 : ((Jvm.Cond.code ({ cls := "WorkspaceBoxModel", name := "two", desc := "(I)Z" } : Jvm.MethodName) prog_9_method_31_code (8 : Nat) (Option.some Jvm.ClassFile.FieldType.boolean)) : Cond) ∈ wq_all := List.mem_of_getElem? (i := 843) (by decide +kernel)
set_option maxRecDepth 20000 in
theorem wk_844 : ((Jvm.Cond.methodLink "WorkspaceBoxModel" (155 : Nat) ({ cls := "WorkspaceBoxModel", name := "operand", desc := "(IZ)I" } : Jvm.MethodName)) : Cond) ∈ wq_all := List.mem_of_getElem? (i := 844) (by decide +kernel)
set_option maxRecDepth 20000 in
theorem wk_845 : ((Jvm.Cond.instanceMethod ({ cls := "WorkspaceBoxModel", name := "operand", desc := "(IZ)I" } : Jvm.MethodName)) : Cond) ∈ wq_all := List.mem_of_getElem? (i := 845) (by decide +kernel)
set_option maxRecDepth 20000 in
theorem wk_846 : ((Jvm.Cond.code ({ cls := "WorkspaceBoxModel", name := "operand", desc := "(IZ)I" } : Jvm.MethodName) prog_9_method_25_code (6 : Nat) (Option.some Jvm.ClassFile.FieldType.int)) : Cond) ∈ wq_all := List.mem_of_getElem? (i := 846) (by decide +kernel)
set_option maxRecDepth 20000 in
theorem wk_847 : ((Jvm.Cond.methodLink "WorkspaceBoxModel" (146 : Nat) ({ cls := "WorkspaceBoxModel", name := "register", desc := "(I)I" } : Jvm.MethodName)) : Cond) ∈ wq_all := List.mem_of_getElem? (i := 847) (by decide +kernel)
set_option maxRecDepth 20000 in
theorem wk_848 : ((Jvm.Cond.instanceMethod ({ cls := "WorkspaceBoxModel", name := "register", desc := "(I)I" } : Jvm.MethodName)) : Cond) ∈ wq_all := List.mem_of_getElem? (i := 848) (by decide +kernel)
set_option maxRecDepth 20000 in
theorem wk_849 : ((Jvm.Cond.code ({ cls := "WorkspaceBoxModel", name := "register", desc := "(I)I" } : Jvm.MethodName) prog_9_method_17_code (2 : Nat) (Option.some Jvm.ClassFile.FieldType.int)) : Cond) ∈ wq_all := List.mem_of_getElem? (i := 849) (by decide +kernel)
set_option maxRecDepth 20000 in
theorem wk_850 : ((Jvm.Cond.methodLink "WorkspaceBoxModel" (158 : Nat) ({ cls := "WorkspaceBoxModel", name := "read", desc := "(IZ)I" } : Jvm.MethodName)) : Cond) ∈ wq_all := List.mem_of_getElem? (i := 850) (by decide +kernel)
set_option maxRecDepth 20000 in
theorem wk_851 : ((Jvm.Cond.instanceMethod ({ cls := "WorkspaceBoxModel", name := "read", desc := "(IZ)I" } : Jvm.MethodName)) : Cond) ∈ wq_all := List.mem_of_getElem? (i := 851) (by decide +kernel)
set_option maxRecDepth 20000 in
theorem wk_852 : ((Jvm.Cond.code ({ cls := "WorkspaceBoxModel", name := "read", desc := "(IZ)I" } : Jvm.MethodName) prog_9_method_26_code (3 : Nat) (Option.some Jvm.ClassFile.FieldType.int)) : Cond) ∈ wq_all := List.mem_of_getElem? (i := 852) (by decide +kernel)
set_option maxRecDepth 20000 in
theorem wk_853 : ((Jvm.Cond.methodLink "WorkspaceBoxModel" (161 : Nat) ({ cls := "WorkspaceBoxModel", name := "less", desc := "(IIZ)I" } : Jvm.MethodName)) : Cond) ∈ wq_all := List.mem_of_getElem? (i := 853) (by decide +kernel)
set_option maxRecDepth 20000 in
theorem wk_854 : ((Jvm.Cond.instanceMethod ({ cls := "WorkspaceBoxModel", name := "less", desc := "(IIZ)I" } : Jvm.MethodName)) : Cond) ∈ wq_all := List.mem_of_getElem? (i := 854) (by decide +kernel)
set_option maxRecDepth 20000 in
theorem wk_855 : ((Jvm.Cond.code ({ cls := "WorkspaceBoxModel", name := "less", desc := "(IIZ)I" } : Jvm.MethodName) prog_9_method_29_code (6 : Nat) (Option.some Jvm.ClassFile.FieldType.int)) : Cond) ∈ wq_all := List.mem_of_getElem? (i := 855) (by decide +kernel)
set_option maxRecDepth 20000 in
theorem wk_856 : ((Jvm.Cond.methodLink "WorkspaceBoxModel" (151 : Nat) ({ cls := "WorkspaceBoxModel", name := "compare", desc := "(IIZ)V" } : Jvm.MethodName)) : Cond) ∈ wq_all := List.mem_of_getElem? (i := 856) (by decide +kernel)
set_option maxRecDepth 20000 in
theorem wk_857 : ((Jvm.Cond.instanceMethod ({ cls := "WorkspaceBoxModel", name := "compare", desc := "(IIZ)V" } : Jvm.MethodName)) : Cond) ∈ wq_all := List.mem_of_getElem? (i := 857) (by decide +kernel)
set_option maxRecDepth 20000 in
theorem wk_858 : ((Jvm.Cond.code ({ cls := "WorkspaceBoxModel", name := "compare", desc := "(IIZ)V" } : Jvm.MethodName) prog_9_method_23_code (4 : Nat) (Option.none : Option Jvm.ClassFile.FieldType)) : Cond) ∈ wq_all := List.mem_of_getElem? (i := 858) (by decide +kernel)
set_option maxRecDepth 20000 in
theorem wk_859 : ((Jvm.Cond.methodLink "WorkspaceBoxModel" (134 : Nat) ({ cls := "WorkspaceBoxModel", name := "flag", desc := "(IZ)V" } : Jvm.MethodName)) : Cond) ∈ wq_all := List.mem_of_getElem? (i := 859) (by decide +kernel)
set_option maxRecDepth 20000 in
theorem wk_860 : ((Jvm.Cond.instanceMethod ({ cls := "WorkspaceBoxModel", name := "flag", desc := "(IZ)V" } : Jvm.MethodName)) : Cond) ∈ wq_all := List.mem_of_getElem? (i := 860) (by decide +kernel)
set_option maxRecDepth 20000 in
theorem wk_861 : ((Jvm.Cond.code ({ cls := "WorkspaceBoxModel", name := "flag", desc := "(IZ)V" } : Jvm.MethodName) prog_9_method_20_code (3 : Nat) (Option.none : Option Jvm.ClassFile.FieldType)) : Cond) ∈ wq_all := List.mem_of_getElem? (i := 861) (by decide +kernel)
set_option maxRecDepth 20000 in
theorem wk_862 : ((Jvm.Cond.methodLink "WorkspaceBoxModel" (138 : Nat) ({ cls := "WorkspaceBoxModel", name := "signed", desc := "(IZ)I" } : Jvm.MethodName)) : Cond) ∈ wq_all := List.mem_of_getElem? (i := 862) (by decide +kernel)
set_option maxRecDepth 20000 in
theorem wk_863 : ((Jvm.Cond.static ({ cls := "WorkspaceBoxModel", name := "signed", desc := "(IZ)I" } : Jvm.MethodName)) : Cond) ∈ wq_all := List.mem_of_getElem? (i := 863) (by decide +kernel)
set_option maxRecDepth 20000 in
theorem wk_864 : ((Jvm.Cond.code ({ cls := "WorkspaceBoxModel", name := "signed", desc := "(IZ)I" } : Jvm.MethodName) prog_9_method_22_code (2 : Nat) (Option.some Jvm.ClassFile.FieldType.int)) : Cond) ∈ wq_all := List.mem_of_getElem? (i := 864) (by decide +kernel)
set_option maxRecDepth 20000 in
theorem wk_865 : ((Jvm.Cond.methodLink "WorkspaceBoxModel" (165 : Nat) ({ cls := "WorkspaceBoxModel", name := "plus", desc := "(IIZ)I" } : Jvm.MethodName)) : Cond) ∈ wq_all := List.mem_of_getElem? (i := 865) (by decide +kernel)
set_option maxRecDepth 20000 in
theorem wk_866 : ((Jvm.Cond.instanceMethod ({ cls := "WorkspaceBoxModel", name := "plus", desc := "(IIZ)I" } : Jvm.MethodName)) : Cond) ∈ wq_all := List.mem_of_getElem? (i := 866) (by decide +kernel)
set_option maxRecDepth 20000 in
theorem wk_867 : ((Jvm.Cond.code ({ cls := "WorkspaceBoxModel", name := "plus", desc := "(IIZ)I" } : Jvm.MethodName) prog_9_method_28_code (6 : Nat) (Option.some Jvm.ClassFile.FieldType.int)) : Cond) ∈ wq_all := List.mem_of_getElem? (i := 867) (by decide +kernel)
set_option maxRecDepth 20000 in
theorem wk_868 : ((Jvm.Cond.methodLink "WorkspaceBoxModel" (168 : Nat) ({ cls := "WorkspaceBoxModel", name := "odd", desc := "(I)V" } : Jvm.MethodName)) : Cond) ∈ wq_all := List.mem_of_getElem? (i := 868) (by decide +kernel)
set_option maxRecDepth 20000 in
theorem wk_869 : ((Jvm.Cond.instanceMethod ({ cls := "WorkspaceBoxModel", name := "odd", desc := "(I)V" } : Jvm.MethodName)) : Cond) ∈ wq_all := List.mem_of_getElem? (i := 869) (by decide +kernel)
set_option maxRecDepth 20000 in
theorem wk_870 : ((Jvm.Cond.code ({ cls := "WorkspaceBoxModel", name := "odd", desc := "(I)V" } : Jvm.MethodName) prog_9_method_24_code (4 : Nat) (Option.none : Option Jvm.ClassFile.FieldType)) : Cond) ∈ wq_all := List.mem_of_getElem? (i := 870) (by decide +kernel)
set_option maxRecDepth 20000 in
theorem wk_871 : ((Jvm.Cond.methodLink "WorkspaceBoxModel" (171 : Nat) ({ cls := "WorkspaceBoxModel", name := "write", desc := "(IIZ)V" } : Jvm.MethodName)) : Cond) ∈ wq_all := List.mem_of_getElem? (i := 871) (by decide +kernel)
set_option maxRecDepth 20000 in
theorem wk_872 : ((Jvm.Cond.instanceMethod ({ cls := "WorkspaceBoxModel", name := "write", desc := "(IIZ)V" } : Jvm.MethodName)) : Cond) ∈ wq_all := List.mem_of_getElem? (i := 872) (by decide +kernel)
set_option maxRecDepth 20000 in
theorem wk_873 : ((Jvm.Cond.code ({ cls := "WorkspaceBoxModel", name := "write", desc := "(IIZ)V" } : Jvm.MethodName) prog_9_method_27_code (4 : Nat) (Option.none : Option Jvm.ClassFile.FieldType)) : Cond) ∈ wq_all := List.mem_of_getElem? (i := 873) (by decide +kernel)
set_option maxRecDepth 20000 in
theorem wk_874 : ((Jvm.Cond.methodLink "WorkspaceBoxModel" (218 : Nat) ({ cls := "WorkspaceBoxModel", name := "withRegister", desc := "(I)Z" } : Jvm.MethodName)) : Cond) ∈ wq_all := List.mem_of_getElem? (i := 874) (by decide +kernel)
set_option maxRecDepth 20000 in
theorem wk_875 : ((Jvm.Cond.instanceMethod ({ cls := "WorkspaceBoxModel", name := "withRegister", desc := "(I)Z" } : Jvm.MethodName)) : Cond) ∈ wq_all := List.mem_of_getElem? (i := 875) (by decide +kernel)
set_option maxRecDepth 20000 in
theorem wk_876 : ((Jvm.Cond.code ({ cls := "WorkspaceBoxModel", name := "withRegister", desc := "(I)Z" } : Jvm.MethodName) prog_9_method_33_code (9 : Nat) (Option.some Jvm.ClassFile.FieldType.boolean)) : Cond) ∈ wq_all := List.mem_of_getElem? (i := 876) (by decide +kernel)
set_option maxRecDepth 20000 in
theorem wk_877 : ((Jvm.Cond.methodLink "WorkspaceBoxModel" (174 : Nat) ({ cls := "WorkspaceBoxModel", name := "bits", desc := "(IIZ)V" } : Jvm.MethodName)) : Cond) ∈ wq_all := List.mem_of_getElem? (i := 877) (by decide +kernel)
set_option maxRecDepth 20000 in
theorem wk_878 : ((Jvm.Cond.instanceMethod ({ cls := "WorkspaceBoxModel", name := "bits", desc := "(IIZ)V" } : Jvm.MethodName)) : Cond) ∈ wq_all := List.mem_of_getElem? (i := 878) (by decide +kernel)
set_option maxRecDepth 20000 in
theorem wk_879 : ((Jvm.Cond.code ({ cls := "WorkspaceBoxModel", name := "bits", desc := "(IIZ)V" } : Jvm.MethodName) prog_9_method_35_code (10 : Nat) (Option.none : Option Jvm.ClassFile.FieldType)) : Cond) ∈ wq_all := List.mem_of_getElem? (i := 879) (by decide +kernel)
set_option maxRecDepth 20000 in
theorem wk_880 : ((Jvm.Cond.methodLink "WorkspaceBoxModel" (190 : Nat) ({ cls := "WorkspaceBoxModel", name := "base", desc := "()I" } : Jvm.MethodName)) : Cond) ∈ wq_all := List.mem_of_getElem? (i := 880) (by decide +kernel)
set_option maxRecDepth 20000 in
theorem wk_881 : ((Jvm.Cond.instanceMethod ({ cls := "WorkspaceBoxModel", name := "base", desc := "()I" } : Jvm.MethodName)) : Cond) ∈ wq_all := List.mem_of_getElem? (i := 881) (by decide +kernel)
set_option maxRecDepth 20000 in
theorem wk_882 : ((Jvm.Cond.code ({ cls := "WorkspaceBoxModel", name := "base", desc := "()I" } : Jvm.MethodName) prog_9_method_32_code (1 : Nat) (Option.some Jvm.ClassFile.FieldType.int)) : Cond) ∈ wq_all := List.mem_of_getElem? (i := 882) (by decide +kernel)
set_option maxRecDepth 20000 in
theorem wk_883 : ((Jvm.Cond.methodLink "WorkspaceBoxModel" (193 : Nat) ({ cls := "WorkspaceBoxModel", name := "inOf", desc := "(I)I" } : Jvm.MethodName)) : Cond) ∈ wq_all := List.mem_of_getElem? (i := 883) (by decide +kernel)
set_option maxRecDepth 20000 in
theorem wk_884 : ((Jvm.Cond.instanceMethod ({ cls := "WorkspaceBoxModel", name := "inOf", desc := "(I)I" } : Jvm.MethodName)) : Cond) ∈ wq_all := List.mem_of_getElem? (i := 884) (by decide +kernel)
set_option maxRecDepth 20000 in
theorem wk_885 : ((Jvm.Cond.code ({ cls := "WorkspaceBoxModel", name := "inOf", desc := "(I)I" } : Jvm.MethodName) prog_9_method_15_code (3 : Nat) (Option.some Jvm.ClassFile.FieldType.int)) : Cond) ∈ wq_all := List.mem_of_getElem? (i := 885) (by decide +kernel)
set_option maxRecDepth 20000 in
theorem wk_886 : ((Jvm.Cond.constantLong "WorkspaceBoxModel" (183 : Nat) (65535 : Int64)) : Cond) ∈ wq_all := List.mem_of_getElem? (i := 886) (by decide +kernel)
set_option maxRecDepth 20000 in
theorem wk_887 : ((Jvm.Cond.methodLink "WorkspaceBoxModel" (185 : Nat) ({ cls := "WorkspaceBoxModel", name := "divide", desc := "(III)V" } : Jvm.MethodName)) : Cond) ∈ wq_all := List.mem_of_getElem? (i := 887) (by decide +kernel)
set_option maxRecDepth 20000 in
theorem wk_888 : ((Jvm.Cond.instanceMethod ({ cls := "WorkspaceBoxModel", name := "divide", desc := "(III)V" } : Jvm.MethodName)) : Cond) ∈ wq_all := List.mem_of_getElem? (i := 888) (by decide +kernel)
set_option maxRecDepth 20000 in
theorem wk_889 : ((Jvm.Cond.code ({ cls := "WorkspaceBoxModel", name := "divide", desc := "(III)V" } : Jvm.MethodName) prog_9_method_34_code (6 : Nat) (Option.none : Option Jvm.ClassFile.FieldType)) : Cond) ∈ wq_all := List.mem_of_getElem? (i := 889) (by decide +kernel)
set_option maxRecDepth 20000 in
theorem wk_890 : ((Jvm.Cond.constantLong "WorkspaceBoxModel" (188 : Nat) (65536 : Int64)) : Cond) ∈ wq_all := List.mem_of_getElem? (i := 890) (by decide +kernel)
set_option maxRecDepth 20000 in
theorem wk_891 : ((Jvm.Cond.methodLink "WorkspaceBoxModel" (221 : Nat) ({ cls := "WorkspaceBoxModel", name := "jump", desc := "(I)V" } : Jvm.MethodName)) : Cond) ∈ wq_all := List.mem_of_getElem? (i := 891) (by decide +kernel)
set_option maxRecDepth 20000 in
theorem wk_892 : ((Jvm.Cond.instanceMethod ({ cls := "WorkspaceBoxModel", name := "jump", desc := "(I)V" } : Jvm.MethodName)) : Cond) ∈ wq_all := List.mem_of_getElem? (i := 892) (by decide +kernel)
set_option maxRecDepth 20000 in
theorem wk_893 : ((Jvm.Cond.code ({ cls := "WorkspaceBoxModel", name := "jump", desc := "(I)V" } : Jvm.MethodName) prog_9_method_43_code (5 : Nat) (Option.none : Option Jvm.ClassFile.FieldType)) : Cond) ∈ wq_all := List.mem_of_getElem? (i := 893) (by decide +kernel)
set_option maxRecDepth 20000 in
theorem wk_894 : ((Jvm.Cond.methodLink "WorkspaceBoxModel" (212 : Nat) ({ cls := "WorkspaceBoxModel", name := "jumps", desc := "(I)Z" } : Jvm.MethodName)) : Cond) ∈ wq_all := List.mem_of_getElem? (i := 894) (by decide +kernel)
set_option maxRecDepth 20000 in
theorem wk_895 : ((Jvm.Cond.instanceMethod ({ cls := "WorkspaceBoxModel", name := "jumps", desc := "(I)Z" } : Jvm.MethodName)) : Cond) ∈ wq_all := List.mem_of_getElem? (i := 895) (by decide +kernel)
set_option maxRecDepth 20000 in
theorem wk_896 : ((Jvm.Cond.code ({ cls := "WorkspaceBoxModel", name := "jumps", desc := "(I)Z" } : Jvm.MethodName) prog_9_method_42_code (5 : Nat) (Option.some Jvm.ClassFile.FieldType.boolean)) : Cond) ∈ wq_all := List.mem_of_getElem? (i := 896) (by decide +kernel)
set_option maxRecDepth 20000 in
theorem wk_897 : ((Jvm.Cond.methodLink "WorkspaceBoxModel" (209 : Nat) ({ cls := "WorkspaceBoxModel", name := "has", desc := "(I)Z" } : Jvm.MethodName)) : Cond) ∈ wq_all := List.mem_of_getElem? (i := 897) (by decide +kernel)
set_option maxRecDepth 20000 in
theorem wk_898 : ((Jvm.Cond.instanceMethod ({ cls := "WorkspaceBoxModel", name := "has", desc := "(I)Z" } : Jvm.MethodName)) : Cond) ∈ wq_all := List.mem_of_getElem? (i := 898) (by decide +kernel)
set_option maxRecDepth 20000 in
theorem wk_899 : ((Jvm.Cond.code ({ cls := "WorkspaceBoxModel", name := "has", desc := "(I)Z" } : Jvm.MethodName) prog_9_method_21_code (2 : Nat) (Option.some Jvm.ClassFile.FieldType.boolean)) : Cond) ∈ wq_all := List.mem_of_getElem? (i := 899) (by decide +kernel)
set_option maxRecDepth 20000 in
theorem wk_900 : ((Jvm.Cond.methodLink "WorkspaceBoxModel" (224 : Nat) ({ cls := "WorkspaceBoxModel", name := "shift", desc := "(I)V" } : Jvm.MethodName)) : Cond) ∈ wq_all := List.mem_of_getElem? (i := 900) (by decide +kernel)
set_option maxRecDepth 20000 in
theorem wk_901 : ((Jvm.Cond.instanceMethod ({ cls := "WorkspaceBoxModel", name := "shift", desc := "(I)V" } : Jvm.MethodName)) : Cond) ∈ wq_all := List.mem_of_getElem? (i := 901) (by decide +kernel)
set_option maxRecDepth 20000 in
theorem wk_902 : ((Jvm.Cond.code ({ cls := "WorkspaceBoxModel", name := "shift", desc := "(I)V" } : Jvm.MethodName) prog_9_method_36_code (10 : Nat) (Option.none : Option Jvm.ClassFile.FieldType)) : Cond) ∈ wq_all := List.mem_of_getElem? (i := 902) (by decide +kernel)
set_option maxRecDepth 20000 in
theorem wk_903 : ((Jvm.Cond.methodLink "WorkspaceBoxModel" (227 : Nat) ({ cls := "WorkspaceBoxModel", name := "one", desc := "(I)Z" } : Jvm.MethodName)) : Cond) ∈ wq_all := List.mem_of_getElem? (i := 903) (by decide +kernel)
set_option maxRecDepth 20000 in
theorem wk_904 : ((Jvm.Cond.instanceMethod ({ cls := "WorkspaceBoxModel", name := "one", desc := "(I)Z" } : Jvm.MethodName)) : Cond) ∈ wq_all := List.mem_of_getElem? (i := 904) (by decide +kernel)
set_option maxRecDepth 20000 in
theorem wk_905 : ((Jvm.Cond.code ({ cls := "WorkspaceBoxModel", name := "one", desc := "(I)Z" } : Jvm.MethodName) prog_9_method_37_code (5 : Nat) (Option.some Jvm.ClassFile.FieldType.boolean)) : Cond) ∈ wq_all := List.mem_of_getElem? (i := 905) (by decide +kernel)
set_option maxRecDepth 20000 in
theorem wk_906 : ((Jvm.Cond.methodLink "WorkspaceBoxModel" (199 : Nat) ({ cls := "WorkspaceBoxModel", name := "changes", desc := "(II)V" } : Jvm.MethodName)) : Cond) ∈ wq_all := List.mem_of_getElem? (i := 906) (by decide +kernel)
set_option maxRecDepth 20000 in
theorem wk_907 : ((Jvm.Cond.instanceMethod ({ cls := "WorkspaceBoxModel", name := "changes", desc := "(II)V" } : Jvm.MethodName)) : Cond) ∈ wq_all := List.mem_of_getElem? (i := 907) (by decide +kernel)
set_option maxRecDepth 20000 in
theorem wk_908 : ((Jvm.Cond.code ({ cls := "WorkspaceBoxModel", name := "changes", desc := "(II)V" } : Jvm.MethodName) prog_9_method_38_code (5 : Nat) (Option.none : Option Jvm.ClassFile.FieldType)) : Cond) ∈ wq_all := List.mem_of_getElem? (i := 908) (by decide +kernel)
set_option maxRecDepth 20000 in
theorem wk_909 : ((Jvm.Cond.methodLink "WorkspaceBoxModel" (230 : Nat) ({ cls := "WorkspaceBoxModel", name := "told", desc := "(I)Z" } : Jvm.MethodName)) : Cond) ∈ wq_all := List.mem_of_getElem? (i := 909) (by decide +kernel)
set_option maxRecDepth 20000 in
theorem wk_910 : ((Jvm.Cond.instanceMethod ({ cls := "WorkspaceBoxModel", name := "told", desc := "(I)Z" } : Jvm.MethodName)) : Cond) ∈ wq_all := List.mem_of_getElem? (i := 910) (by decide +kernel)
set_option maxRecDepth 20000 in
theorem wk_911 : ((Jvm.Cond.code ({ cls := "WorkspaceBoxModel", name := "told", desc := "(I)Z" } : Jvm.MethodName) prog_9_method_39_code (4 : Nat) (Option.some Jvm.ClassFile.FieldType.boolean)) : Cond) ∈ wq_all := List.mem_of_getElem? (i := 911) (by decide +kernel)
set_option maxRecDepth 20000 in
theorem wk_912 : ((Jvm.Cond.methodLink "WorkspaceBoxModel" (202 : Nat) ({ cls := "WorkspaceBoxModel", name := "immediate", desc := "(III)V" } : Jvm.MethodName)) : Cond) ∈ wq_all := List.mem_of_getElem? (i := 912) (by decide +kernel)
set_option maxRecDepth 20000 in
theorem wk_913 : ((Jvm.Cond.instanceMethod ({ cls := "WorkspaceBoxModel", name := "immediate", desc := "(III)V" } : Jvm.MethodName)) : Cond) ∈ wq_all := List.mem_of_getElem? (i := 913) (by decide +kernel)
set_option maxRecDepth 20000 in
theorem wk_914 : ((Jvm.Cond.code ({ cls := "WorkspaceBoxModel", name := "immediate", desc := "(III)V" } : Jvm.MethodName) prog_9_method_41_code (6 : Nat) (Option.none : Option Jvm.ClassFile.FieldType)) : Cond) ∈ wq_all := List.mem_of_getElem? (i := 914) (by decide +kernel)
set_option maxRecDepth 20000 in
theorem wk_915 : ((Jvm.Cond.methodLink "WorkspaceBoxModel" (205 : Nat) ({ cls := "WorkspaceBoxModel", name := "comesBack", desc := "()V" } : Jvm.MethodName)) : Cond) ∈ wq_all := List.mem_of_getElem? (i := 915) (by decide +kernel)
set_option maxRecDepth 20000 in
theorem wk_916 : ((Jvm.Cond.instanceMethod ({ cls := "WorkspaceBoxModel", name := "comesBack", desc := "()V" } : Jvm.MethodName)) : Cond) ∈ wq_all := List.mem_of_getElem? (i := 916) (by decide +kernel)
set_option maxRecDepth 20000 in
theorem wk_917 : ((Jvm.Cond.code ({ cls := "WorkspaceBoxModel", name := "comesBack", desc := "()V" } : Jvm.MethodName) prog_9_method_40_code (4 : Nat) (Option.none : Option Jvm.ClassFile.FieldType)) : Cond) ∈ wq_all := List.mem_of_getElem? (i := 917) (by decide +kernel)
set_option maxRecDepth 20000 in
theorem wk_918 : ((Jvm.Cond.constant "WorkspaceBoxModel" (208 : Nat) (65039 : Int32)) : Cond) ∈ wq_all := List.mem_of_getElem? (i := 918) (by decide +kernel)
set_option maxRecDepth 20000 in
theorem wk_919 : ((Jvm.Cond.methodLink "WorkspaceBoxLaw" (28 : Nat) ({ cls := "WorkspaceBoxModel", name := "feed", desc := "(IIIII)I" } : Jvm.MethodName)) : Cond) ∈ wq_all := List.mem_of_getElem? (i := 919) (by decide +kernel)
set_option maxRecDepth 20000 in
theorem wk_920 : ((Jvm.Cond.instanceMethod ({ cls := "WorkspaceBoxModel", name := "feed", desc := "(IIIII)I" } : Jvm.MethodName)) : Cond) ∈ wq_all := List.mem_of_getElem? (i := 920) (by decide +kernel)
set_option maxRecDepth 20000 in
theorem wk_921 : ((Jvm.Cond.selects "WorkspaceBoxModel" ({ cls := "WorkspaceBoxModel", name := "feed", desc := "(IIIII)I" } : Jvm.MethodName) ({ cls := "WorkspaceBoxModel", name := "feed", desc := "(IIIII)I" } : Jvm.MethodName)) : Cond) ∈ wq_all := List.mem_of_getElem? (i := 921) (by decide +kernel)
set_option maxRecDepth 20000 in
theorem wk_922 : ((Jvm.Cond.code ({ cls := "WorkspaceBoxModel", name := "feed", desc := "(IIIII)I" } : Jvm.MethodName) prog_9_method_48_code (8 : Nat) (Option.some Jvm.ClassFile.FieldType.int)) : Cond) ∈ wq_all := List.mem_of_getElem? (i := 922) (by decide +kernel)
set_option maxRecDepth 20000 in
theorem wk_923 : ((Jvm.Cond.methodLink "WorkspaceBoxLaw" (32 : Nat) ({ cls := "WorkspaceBoxModel", name := "end", desc := "(I)I" } : Jvm.MethodName)) : Cond) ∈ wq_all := List.mem_of_getElem? (i := 923) (by decide +kernel)
set_option maxRecDepth 20000 in
theorem wk_924 : ((Jvm.Cond.instanceMethod ({ cls := "WorkspaceBoxModel", name := "end", desc := "(I)I" } : Jvm.MethodName)) : Cond) ∈ wq_all := List.mem_of_getElem? (i := 924) (by decide +kernel)
set_option maxRecDepth 20000 in
theorem wk_925 : ((Jvm.Cond.selects "WorkspaceBoxModel" ({ cls := "WorkspaceBoxModel", name := "end", desc := "(I)I" } : Jvm.MethodName) ({ cls := "WorkspaceBoxModel", name := "end", desc := "(I)I" } : Jvm.MethodName)) : Cond) ∈ wq_all := List.mem_of_getElem? (i := 925) (by decide +kernel)
set_option maxRecDepth 20000 in
theorem wk_926 : ((Jvm.Cond.code ({ cls := "WorkspaceBoxModel", name := "end", desc := "(I)I" } : Jvm.MethodName) prog_9_method_49_code (2 : Nat) (Option.some Jvm.ClassFile.FieldType.int)) : Cond) ∈ wq_all := List.mem_of_getElem? (i := 926) (by decide +kernel)
set_option maxRecDepth 20000 in
theorem wk_927 : ((Jvm.Cond.methodLink "WorkspaceBoxLaw" (37 : Nat) ({ cls := "WorkspaceBoxModel", name := "load", desc := "(II)I" } : Jvm.MethodName)) : Cond) ∈ wq_all := List.mem_of_getElem? (i := 927) (by decide +kernel)
set_option maxRecDepth 20000 in
theorem wk_928 : ((Jvm.Cond.instanceMethod ({ cls := "WorkspaceBoxModel", name := "load", desc := "(II)I" } : Jvm.MethodName)) : Cond) ∈ wq_all := List.mem_of_getElem? (i := 928) (by decide +kernel)
set_option maxRecDepth 20000 in
theorem wk_929 : ((Jvm.Cond.selects "WorkspaceBoxModel" ({ cls := "WorkspaceBoxModel", name := "load", desc := "(II)I" } : Jvm.MethodName) ({ cls := "WorkspaceBoxModel", name := "load", desc := "(II)I" } : Jvm.MethodName)) : Cond) ∈ wq_all := List.mem_of_getElem? (i := 929) (by decide +kernel)
set_option maxRecDepth 20000 in
theorem wk_930 : ((Jvm.Cond.code ({ cls := "WorkspaceBoxModel", name := "load", desc := "(II)I" } : Jvm.MethodName) prog_9_method_50_code (5 : Nat) (Option.some Jvm.ClassFile.FieldType.int)) : Cond) ∈ wq_all := List.mem_of_getElem? (i := 930) (by decide +kernel)
set_option maxRecDepth 20000 in
theorem wk_931 : ((Jvm.Cond.methodLink "WorkspaceBoxLaw" (41 : Nat) ({ cls := "WorkspaceBoxModel", name := "reset", desc := "()V" } : Jvm.MethodName)) : Cond) ∈ wq_all := List.mem_of_getElem? (i := 931) (by decide +kernel)
set_option maxRecDepth 20000 in
theorem wk_932 : ((Jvm.Cond.instanceMethod ({ cls := "WorkspaceBoxModel", name := "reset", desc := "()V" } : Jvm.MethodName)) : Cond) ∈ wq_all := List.mem_of_getElem? (i := 932) (by decide +kernel)
set_option maxRecDepth 20000 in
theorem wk_933 : ((Jvm.Cond.selects "WorkspaceBoxModel" ({ cls := "WorkspaceBoxModel", name := "reset", desc := "()V" } : Jvm.MethodName) ({ cls := "WorkspaceBoxModel", name := "reset", desc := "()V" } : Jvm.MethodName)) : Cond) ∈ wq_all := List.mem_of_getElem? (i := 933) (by decide +kernel)
set_option maxRecDepth 20000 in
theorem wk_934 : ((Jvm.Cond.code ({ cls := "WorkspaceBoxModel", name := "reset", desc := "()V" } : Jvm.MethodName) prog_9_method_51_code (2 : Nat) (Option.none : Option Jvm.ClassFile.FieldType)) : Cond) ∈ wq_all := List.mem_of_getElem? (i := 934) (by decide +kernel)
set_option maxRecDepth 20000 in
theorem wk_935 : ((Jvm.Cond.methodLink "WorkspaceBoxModel" (248 : Nat) ({ cls := "WorkspaceBoxModel", name := "plainWord", desc := "(I)I" } : Jvm.MethodName)) : Cond) ∈ wq_all := List.mem_of_getElem? (i := 935) (by decide +kernel)
set_option maxRecDepth 20000 in
theorem wk_936 : ((Jvm.Cond.instanceMethod ({ cls := "WorkspaceBoxModel", name := "plainWord", desc := "(I)I" } : Jvm.MethodName)) : Cond) ∈ wq_all := List.mem_of_getElem? (i := 936) (by decide +kernel)
set_option maxRecDepth 20000 in
theorem wk_937 : ((Jvm.Cond.code ({ cls := "WorkspaceBoxModel", name := "plainWord", desc := "(I)I" } : Jvm.MethodName) prog_9_method_52_code (2 : Nat) (Option.some Jvm.ClassFile.FieldType.int)) : Cond) ∈ wq_all := List.mem_of_getElem? (i := 937) (by decide +kernel)
set_option maxRecDepth 20000 in
theorem wk_938 : ((Jvm.Cond.methodLink "WorkspaceBoxLaw" (51 : Nat) ({ cls := "WorkspaceBoxModel", name := "state", desc := "(I)I" } : Jvm.MethodName)) : Cond) ∈ wq_all := List.mem_of_getElem? (i := 938) (by decide +kernel)
set_option maxRecDepth 20000 in
theorem wk_939 : ((Jvm.Cond.instanceMethod ({ cls := "WorkspaceBoxModel", name := "state", desc := "(I)I" } : Jvm.MethodName)) : Cond) ∈ wq_all := List.mem_of_getElem? (i := 939) (by decide +kernel)
set_option maxRecDepth 20000 in
theorem wk_940 : ((Jvm.Cond.selects "WorkspaceBoxModel" ({ cls := "WorkspaceBoxModel", name := "state", desc := "(I)I" } : Jvm.MethodName) ({ cls := "WorkspaceBoxModel", name := "state", desc := "(I)I" } : Jvm.MethodName)) : Cond) ∈ wq_all := List.mem_of_getElem? (i := 940) (by decide +kernel)
set_option maxRecDepth 20000 in
theorem wk_941 : ((Jvm.Cond.code ({ cls := "WorkspaceBoxModel", name := "state", desc := "(I)I" } : Jvm.MethodName) prog_9_method_53_code (2 : Nat) (Option.some Jvm.ClassFile.FieldType.int)) : Cond) ∈ wq_all := List.mem_of_getElem? (i := 941) (by decide +kernel)
set_option maxRecDepth 20000 in
theorem wk_942 : ((Jvm.Cond.methodLink "WorkspaceBoxLaw" (55 : Nat) ({ cls := "WorkspaceBoxModel", name := "peek", desc := "(I)I" } : Jvm.MethodName)) : Cond) ∈ wq_all := List.mem_of_getElem? (i := 942) (by decide +kernel)
set_option maxRecDepth 20000 in
theorem wk_943 : ((Jvm.Cond.instanceMethod ({ cls := "WorkspaceBoxModel", name := "peek", desc := "(I)I" } : Jvm.MethodName)) : Cond) ∈ wq_all := List.mem_of_getElem? (i := 943) (by decide +kernel)
set_option maxRecDepth 20000 in
theorem wk_944 : ((Jvm.Cond.selects "WorkspaceBoxModel" ({ cls := "WorkspaceBoxModel", name := "peek", desc := "(I)I" } : Jvm.MethodName) ({ cls := "WorkspaceBoxModel", name := "peek", desc := "(I)I" } : Jvm.MethodName)) : Cond) ∈ wq_all := List.mem_of_getElem? (i := 944) (by decide +kernel)
set_option maxRecDepth 20000 in
theorem wk_945 : ((Jvm.Cond.code ({ cls := "WorkspaceBoxModel", name := "peek", desc := "(I)I" } : Jvm.MethodName) prog_9_method_54_code (2 : Nat) (Option.some Jvm.ClassFile.FieldType.int)) : Cond) ∈ wq_all := List.mem_of_getElem? (i := 945) (by decide +kernel)
set_option maxRecDepth 20000 in
theorem wk_946 : ((Jvm.Cond.methodLink "WorkspaceBoxLaw" (60 : Nat) ({ cls := "WorkspaceBoxModel", name := "set", desc := "(II)Z" } : Jvm.MethodName)) : Cond) ∈ wq_all := List.mem_of_getElem? (i := 946) (by decide +kernel)
set_option maxRecDepth 20000 in
theorem wk_947 : ((Jvm.Cond.instanceMethod ({ cls := "WorkspaceBoxModel", name := "set", desc := "(II)Z" } : Jvm.MethodName)) : Cond) ∈ wq_all := List.mem_of_getElem? (i := 947) (by decide +kernel)
set_option maxRecDepth 20000 in
theorem wk_948 : ((Jvm.Cond.selects "WorkspaceBoxModel" ({ cls := "WorkspaceBoxModel", name := "set", desc := "(II)Z" } : Jvm.MethodName) ({ cls := "WorkspaceBoxModel", name := "set", desc := "(II)Z" } : Jvm.MethodName)) : Cond) ∈ wq_all := List.mem_of_getElem? (i := 948) (by decide +kernel)
set_option maxRecDepth 20000 in
theorem wk_949 : ((Jvm.Cond.code ({ cls := "WorkspaceBoxModel", name := "set", desc := "(II)Z" } : Jvm.MethodName) prog_9_method_55_code (3 : Nat) (Option.some Jvm.ClassFile.FieldType.boolean)) : Cond) ∈ wq_all := List.mem_of_getElem? (i := 949) (by decide +kernel)
set_option maxRecDepth 20000 in
theorem wk_950 : ((Jvm.Cond.methodLink "WorkspaceBoxLaw" (64 : Nat) ({ cls := "WorkspaceBoxModel", name := "picture", desc := "(I)I" } : Jvm.MethodName)) : Cond) ∈ wq_all := List.mem_of_getElem? (i := 950) (by decide +kernel)
set_option maxRecDepth 20000 in
theorem wk_951 : ((Jvm.Cond.instanceMethod ({ cls := "WorkspaceBoxModel", name := "picture", desc := "(I)I" } : Jvm.MethodName)) : Cond) ∈ wq_all := List.mem_of_getElem? (i := 951) (by decide +kernel)
set_option maxRecDepth 20000 in
theorem wk_952 : ((Jvm.Cond.selects "WorkspaceBoxModel" ({ cls := "WorkspaceBoxModel", name := "picture", desc := "(I)I" } : Jvm.MethodName) ({ cls := "WorkspaceBoxModel", name := "picture", desc := "(I)I" } : Jvm.MethodName)) : Cond) ∈ wq_all := List.mem_of_getElem? (i := 952) (by decide +kernel)
set_option maxRecDepth 20000 in
theorem wk_953 : ((Jvm.Cond.code ({ cls := "WorkspaceBoxModel", name := "picture", desc := "(I)I" } : Jvm.MethodName) prog_9_method_56_code (2 : Nat) (Option.some Jvm.ClassFile.FieldType.int)) : Cond) ∈ wq_all := List.mem_of_getElem? (i := 953) (by decide +kernel)
set_option maxRecDepth 20000 in
theorem wk_954 : ((Jvm.Cond.methodLink "WorkspaceBoxLaw" (67 : Nat) ({ cls := "WorkspaceBoxModel", name := "vram", desc := "(I)I" } : Jvm.MethodName)) : Cond) ∈ wq_all := List.mem_of_getElem? (i := 954) (by decide +kernel)
set_option maxRecDepth 20000 in
theorem wk_955 : ((Jvm.Cond.instanceMethod ({ cls := "WorkspaceBoxModel", name := "vram", desc := "(I)I" } : Jvm.MethodName)) : Cond) ∈ wq_all := List.mem_of_getElem? (i := 955) (by decide +kernel)
set_option maxRecDepth 20000 in
theorem wk_956 : ((Jvm.Cond.selects "WorkspaceBoxModel" ({ cls := "WorkspaceBoxModel", name := "vram", desc := "(I)I" } : Jvm.MethodName) ({ cls := "WorkspaceBoxModel", name := "vram", desc := "(I)I" } : Jvm.MethodName)) : Cond) ∈ wq_all := List.mem_of_getElem? (i := 956) (by decide +kernel)
set_option maxRecDepth 20000 in
theorem wk_957 : ((Jvm.Cond.code ({ cls := "WorkspaceBoxModel", name := "vram", desc := "(I)I" } : Jvm.MethodName) prog_9_method_57_code (2 : Nat) (Option.some Jvm.ClassFile.FieldType.int)) : Cond) ∈ wq_all := List.mem_of_getElem? (i := 957) (by decide +kernel)
set_option maxRecDepth 20000 in
theorem wk_958 : ((Jvm.Cond.methodLink "WorkspaceBoxLaw" (71 : Nat) ({ cls := "WorkspaceBoxModel", name := "grom", desc := "(I)I" } : Jvm.MethodName)) : Cond) ∈ wq_all := List.mem_of_getElem? (i := 958) (by decide +kernel)
set_option maxRecDepth 20000 in
theorem wk_959 : ((Jvm.Cond.instanceMethod ({ cls := "WorkspaceBoxModel", name := "grom", desc := "(I)I" } : Jvm.MethodName)) : Cond) ∈ wq_all := List.mem_of_getElem? (i := 959) (by decide +kernel)
set_option maxRecDepth 20000 in
theorem wk_960 : ((Jvm.Cond.selects "WorkspaceBoxModel" ({ cls := "WorkspaceBoxModel", name := "grom", desc := "(I)I" } : Jvm.MethodName) ({ cls := "WorkspaceBoxModel", name := "grom", desc := "(I)I" } : Jvm.MethodName)) : Cond) ∈ wq_all := List.mem_of_getElem? (i := 960) (by decide +kernel)
set_option maxRecDepth 20000 in
theorem wk_961 : ((Jvm.Cond.code ({ cls := "WorkspaceBoxModel", name := "grom", desc := "(I)I" } : Jvm.MethodName) prog_9_method_58_code (2 : Nat) (Option.some Jvm.ClassFile.FieldType.int)) : Cond) ∈ wq_all := List.mem_of_getElem? (i := 961) (by decide +kernel)
set_option maxRecDepth 20000 in
theorem wk_962 : ((Jvm.Cond.methodLink "WorkspaceBoxLaw" (75 : Nat) ({ cls := "WorkspaceBoxModel", name := "frame", desc := "()V" } : Jvm.MethodName)) : Cond) ∈ wq_all := List.mem_of_getElem? (i := 962) (by decide +kernel)
set_option maxRecDepth 20000 in
theorem wk_963 : ((Jvm.Cond.instanceMethod ({ cls := "WorkspaceBoxModel", name := "frame", desc := "()V" } : Jvm.MethodName)) : Cond) ∈ wq_all := List.mem_of_getElem? (i := 963) (by decide +kernel)
set_option maxRecDepth 20000 in
theorem wk_964 : ((Jvm.Cond.selects "WorkspaceBoxModel" ({ cls := "WorkspaceBoxModel", name := "frame", desc := "()V" } : Jvm.MethodName) ({ cls := "WorkspaceBoxModel", name := "frame", desc := "()V" } : Jvm.MethodName)) : Cond) ∈ wq_all := List.mem_of_getElem? (i := 964) (by decide +kernel)
set_option maxRecDepth 20000 in
theorem wk_965 : ((Jvm.Cond.code ({ cls := "WorkspaceBoxModel", name := "frame", desc := "()V" } : Jvm.MethodName) prog_9_method_59_code (1 : Nat) (Option.none : Option Jvm.ClassFile.FieldType)) : Cond) ∈ wq_all := List.mem_of_getElem? (i := 965) (by decide +kernel)
set_option maxRecDepth 20000 in
theorem wk_966 : ((Jvm.Cond.methodLink "WorkspaceBoxLaw" (80 : Nat) ({ cls := "WorkspaceBoxModel", name := "interrupt", desc := "(I)Z" } : Jvm.MethodName)) : Cond) ∈ wq_all := List.mem_of_getElem? (i := 966) (by decide +kernel)
set_option maxRecDepth 20000 in
theorem wk_967 : ((Jvm.Cond.instanceMethod ({ cls := "WorkspaceBoxModel", name := "interrupt", desc := "(I)Z" } : Jvm.MethodName)) : Cond) ∈ wq_all := List.mem_of_getElem? (i := 967) (by decide +kernel)
set_option maxRecDepth 20000 in
theorem wk_968 : ((Jvm.Cond.selects "WorkspaceBoxModel" ({ cls := "WorkspaceBoxModel", name := "interrupt", desc := "(I)Z" } : Jvm.MethodName) ({ cls := "WorkspaceBoxModel", name := "interrupt", desc := "(I)Z" } : Jvm.MethodName)) : Cond) ∈ wq_all := List.mem_of_getElem? (i := 968) (by decide +kernel)
set_option maxRecDepth 20000 in
theorem wk_969 : ((Jvm.Cond.code ({ cls := "WorkspaceBoxModel", name := "interrupt", desc := "(I)Z" } : Jvm.MethodName) prog_9_method_60_code (2 : Nat) (Option.some Jvm.ClassFile.FieldType.boolean)) : Cond) ∈ wq_all := List.mem_of_getElem? (i := 969) (by decide +kernel)
set_option maxRecDepth 20000 in
theorem wk_970 : ((Jvm.Cond.methodLink "WorkspaceBoxLaw" (85 : Nat) ({ cls := "WorkspaceBoxModel", name := "key", desc := "(IIZ)Z" } : Jvm.MethodName)) : Cond) ∈ wq_all := List.mem_of_getElem? (i := 970) (by decide +kernel)
set_option maxRecDepth 20000 in
theorem wk_971 : ((Jvm.Cond.instanceMethod ({ cls := "WorkspaceBoxModel", name := "key", desc := "(IIZ)Z" } : Jvm.MethodName)) : Cond) ∈ wq_all := List.mem_of_getElem? (i := 971) (by decide +kernel)
set_option maxRecDepth 20000 in
theorem wk_972 : ((Jvm.Cond.selects "WorkspaceBoxModel" ({ cls := "WorkspaceBoxModel", name := "key", desc := "(IIZ)Z" } : Jvm.MethodName) ({ cls := "WorkspaceBoxModel", name := "key", desc := "(IIZ)Z" } : Jvm.MethodName)) : Cond) ∈ wq_all := List.mem_of_getElem? (i := 972) (by decide +kernel)
set_option maxRecDepth 20000 in
theorem wk_973 : ((Jvm.Cond.code ({ cls := "WorkspaceBoxModel", name := "key", desc := "(IIZ)Z" } : Jvm.MethodName) prog_9_method_61_code (4 : Nat) (Option.some Jvm.ClassFile.FieldType.boolean)) : Cond) ∈ wq_all := List.mem_of_getElem? (i := 973) (by decide +kernel)
set_option maxRecDepth 20000 in
theorem wk_974 : ((Jvm.Cond.methodLink "WorkspaceBoxLaw" (89 : Nat) ({ cls := "WorkspaceBoxModel", name := "out", desc := "(I)I" } : Jvm.MethodName)) : Cond) ∈ wq_all := List.mem_of_getElem? (i := 974) (by decide +kernel)
set_option maxRecDepth 20000 in
theorem wk_975 : ((Jvm.Cond.instanceMethod ({ cls := "WorkspaceBoxModel", name := "out", desc := "(I)I" } : Jvm.MethodName)) : Cond) ∈ wq_all := List.mem_of_getElem? (i := 975) (by decide +kernel)
set_option maxRecDepth 20000 in
theorem wk_976 : ((Jvm.Cond.selects "WorkspaceBoxModel" ({ cls := "WorkspaceBoxModel", name := "out", desc := "(I)I" } : Jvm.MethodName) ({ cls := "WorkspaceBoxModel", name := "out", desc := "(I)I" } : Jvm.MethodName)) : Cond) ∈ wq_all := List.mem_of_getElem? (i := 976) (by decide +kernel)
set_option maxRecDepth 20000 in
theorem wk_977 : ((Jvm.Cond.code ({ cls := "WorkspaceBoxModel", name := "out", desc := "(I)I" } : Jvm.MethodName) prog_9_method_62_code (2 : Nat) (Option.some Jvm.ClassFile.FieldType.int)) : Cond) ∈ wq_all := List.mem_of_getElem? (i := 977) (by decide +kernel)
set_option maxRecDepth 20000 in
theorem wk_978 : ((Jvm.Cond.methodLink "WorkspaceBoxLaw" (93 : Nat) ({ cls := "WorkspaceBoxModel", name := "in", desc := "(I)I" } : Jvm.MethodName)) : Cond) ∈ wq_all := List.mem_of_getElem? (i := 978) (by decide +kernel)
set_option maxRecDepth 20000 in
theorem wk_979 : ((Jvm.Cond.instanceMethod ({ cls := "WorkspaceBoxModel", name := "in", desc := "(I)I" } : Jvm.MethodName)) : Cond) ∈ wq_all := List.mem_of_getElem? (i := 979) (by decide +kernel)
set_option maxRecDepth 20000 in
theorem wk_980 : ((Jvm.Cond.selects "WorkspaceBoxModel" ({ cls := "WorkspaceBoxModel", name := "in", desc := "(I)I" } : Jvm.MethodName) ({ cls := "WorkspaceBoxModel", name := "in", desc := "(I)I" } : Jvm.MethodName)) : Cond) ∈ wq_all := List.mem_of_getElem? (i := 980) (by decide +kernel)
set_option maxRecDepth 20000 in
theorem wk_981 : ((Jvm.Cond.code ({ cls := "WorkspaceBoxModel", name := "in", desc := "(I)I" } : Jvm.MethodName) prog_9_method_63_code (2 : Nat) (Option.some Jvm.ClassFile.FieldType.int)) : Cond) ∈ wq_all := List.mem_of_getElem? (i := 981) (by decide +kernel)
set_option maxRecDepth 20000 in
theorem wk_982 : ((Jvm.Cond.methodLink "WorkspaceBoxLaw" (97 : Nat) ({ cls := "WorkspaceBoxModel", name := "pixel", desc := "(II)I" } : Jvm.MethodName)) : Cond) ∈ wq_all := List.mem_of_getElem? (i := 982) (by decide +kernel)
set_option maxRecDepth 20000 in
theorem wk_983 : ((Jvm.Cond.instanceMethod ({ cls := "WorkspaceBoxModel", name := "pixel", desc := "(II)I" } : Jvm.MethodName)) : Cond) ∈ wq_all := List.mem_of_getElem? (i := 983) (by decide +kernel)
set_option maxRecDepth 20000 in
theorem wk_984 : ((Jvm.Cond.selects "WorkspaceBoxModel" ({ cls := "WorkspaceBoxModel", name := "pixel", desc := "(II)I" } : Jvm.MethodName) ({ cls := "WorkspaceBoxModel", name := "pixel", desc := "(II)I" } : Jvm.MethodName)) : Cond) ∈ wq_all := List.mem_of_getElem? (i := 984) (by decide +kernel)
set_option maxRecDepth 20000 in
theorem wk_985 : ((Jvm.Cond.code ({ cls := "WorkspaceBoxModel", name := "pixel", desc := "(II)I" } : Jvm.MethodName) prog_9_method_64_code (8 : Nat) (Option.some Jvm.ClassFile.FieldType.int)) : Cond) ∈ wq_all := List.mem_of_getElem? (i := 985) (by decide +kernel)
set_option maxRecDepth 20000 in
theorem wk_986 : ((Jvm.Cond.sameMethod "java/lang/Throwable" "java/lang/Throwable" "fillInStackTrace" "(I)Ljava/lang/Throwable;") : Cond) ∈ wq_all := List.mem_of_getElem? (i := 986) (by decide +kernel)
