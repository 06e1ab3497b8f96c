set_option maxRecDepth 20000 in
theorem wk_937 : ((Jvm.Cond.code ({ cls := "WorkspaceBoxModel", name := "plainWord", desc := "(I)I" } : Jvm.MethodName) prog_9_method_52_code (2 : Nat) (Option.some Jvm.ClassFile.FieldType.int)) : Cond) ∈ wq_all := List.mem_of_getElem? (i := 937) (by decide +kernel)
set_option maxRecDepth 20000 in
theorem wk_938 : ((Jvm.Cond.methodLink "WorkspaceBoxLaw" (51 : Nat) ({ cls := "WorkspaceBoxModel", name := "state", desc := "(I)I" } : Jvm.MethodName)) : Cond) ∈ wq_all := List.mem_of_getElem? (i := 938) (by decide +kernel)
set_option maxRecDepth 20000 in
theorem wk_939 : ((Jvm.Cond.instanceMethod ({ cls := "WorkspaceBoxModel", name := "state", desc := "(I)I" } : Jvm.MethodName)) : Cond) ∈ wq_all := List.mem_of_getElem? (i := 939) (by decide +kernel)
set_option maxRecDepth 20000 in
theorem wk_940 : ((Jvm.Cond.selects "WorkspaceBoxModel" ({ cls := "WorkspaceBoxModel", name := "state", desc := "(I)I" } : Jvm.MethodName) ({ cls := "WorkspaceBoxModel", name := "state", desc := "(I)I" } : Jvm.MethodName)) : Cond) ∈ wq_all := List.mem_of_getElem? (i := 940) (by decide +kernel)
set_option maxRecDepth 20000 in
theorem wk_941 : ((Jvm.Cond.code ({ cls := "WorkspaceBoxModel", name := "state", desc := "(I)I" } : Jvm.MethodName) prog_9_method_53_code (2 : Nat) (Option.some Jvm.ClassFile.FieldType.int)) : Cond) ∈ wq_all := List.mem_of_getElem? (i := 941) (by decide +kernel)
set_option maxRecDepth 20000 in
theorem wk_942 : ((Jvm.Cond.methodLink "WorkspaceBoxLaw" (55 : Nat) ({ cls := "WorkspaceBoxModel", name := "peek", desc := "(I)I" } : Jvm.MethodName)) : Cond) ∈ wq_all := List.mem_of_getElem? (i := 942) (by decide +kernel)
set_option maxRecDepth 20000 in
theorem wk_943 : ((Jvm.Cond.instanceMethod ({ cls := "WorkspaceBoxModel", name := "peek", desc := "(I)I" } : Jvm.MethodName)) : Cond) ∈ wq_all := List.mem_of_getElem? (i := 943) (by decide +kernel)
set_option maxRecDepth 20000 in
theorem wk_944 : ((Jvm.Cond.selects "WorkspaceBoxModel" ({ cls := "WorkspaceBoxModel", name := "peek", desc := "(I)I" } : Jvm.MethodName) ({ cls := "WorkspaceBoxModel", name := "peek", desc := "(I)I" } : Jvm.MethodName)) : Cond) ∈ wq_all := List.mem_of_getElem? (i := 944) (by decide +kernel)
set_option maxRecDepth 20000 in
theorem wk_945 : ((Jvm.Cond.code ({ cls := "WorkspaceBoxModel", name := "peek", desc := "(I)I" } : Jvm.MethodName) prog_9_method_54_code (2 : Nat) (Option.some Jvm.ClassFile.FieldType.int)) : Cond) ∈ wq_all := List.mem_of_getElem? (i := 945) (by decide +kernel)
set_option maxRecDepth 20000 in
theorem wk_946 : ((Jvm.Cond.methodLink "WorkspaceBoxLaw" (60 : Nat) ({ cls := "WorkspaceBoxModel", name := "set", desc := "(II)Z" } : Jvm.MethodName)) : Cond) ∈ wq_all := List.mem_of_getElem? (i := 946) (by decide +kernel)
set_option maxRecDepth 20000 in
theorem wk_947 : ((Jvm.Cond.instanceMethod ({ cls := "WorkspaceBoxModel", name := "set", desc := "(II)Z" } : Jvm.MethodName)) : Cond) ∈ wq_all := List.mem_of_getElem? (i := 947) (by decide +kernel)
set_option maxRecDepth 20000 in
theorem wk_948 : ((Jvm.Cond.selects "WorkspaceBoxModel" ({ cls := "WorkspaceBoxModel", name := "set", desc := "(II)Z" } : Jvm.MethodName) ({ cls := "WorkspaceBoxModel", name := "set", desc := "(II)Z" } : Jvm.MethodName)) : Cond) ∈ wq_all := List.mem_of_getElem? (i := 948) (by decide +kernel)
set_option maxRecDepth 20000 in
theorem wk_949 : ((Jvm.Cond.code ({ cls := "WorkspaceBoxModel", name := "set", desc := "(II)Z" } : Jvm.MethodName) prog_9_method_55_code (3 : Nat) (Option.some Jvm.ClassFile.FieldType.boolean)) : Cond) ∈ wq_all := List.mem_of_getElem? (i := 949) (by decide +kernel)
set_option maxRecDepth 20000 in
theorem wk_950 : ((Jvm.Cond.methodLink "WorkspaceBoxLaw" (64 : Nat) ({ cls := "WorkspaceBoxModel", name := "picture", desc := "(I)I" } : Jvm.MethodName)) : Cond) ∈ wq_all := List.mem_of_getElem? (i := 950) (by decide +kernel)
set_option maxRecDepth 20000 in
theorem wk_951 : ((Jvm.Cond.instanceMethod ({ cls := "WorkspaceBoxModel", name := "picture", desc := "(I)I" } : Jvm.MethodName)) : Cond) ∈ wq_all := List.mem_of_getElem? (i := 951) (by decide +kernel)
set_option maxRecDepth 20000 in
theorem wk_952 : ((Jvm.Cond.selects "WorkspaceBoxModel" ({ cls := "WorkspaceBoxModel", name := "picture", desc := "(I)I" } : Jvm.MethodName) ({ cls := "WorkspaceBoxModel", name := "picture", desc := "(I)I" } : Jvm.MethodName)) : Cond) ∈ wq_all := List.mem_of_getElem? (i := 952) (by decide +kernel)
set_option maxRecDepth 20000 in
theorem wk_953 : ((Jvm.Cond.code ({ cls := "WorkspaceBoxModel", name := "picture", desc := "(I)I" } : Jvm.MethodName) prog_9_method_56_code (2 : Nat) (Option.some Jvm.ClassFile.FieldType.int)) : Cond) ∈ wq_all := List.mem_of_getElem? (i := 953) (by decide +kernel)
set_option maxRecDepth 20000 in
theorem wk_954 : ((Jvm.Cond.methodLink "WorkspaceBoxLaw" (67 : Nat) ({ cls := "WorkspaceBoxModel", name := "vram", desc := "(I)I" } : Jvm.MethodName)) : Cond) ∈ wq_all := List.mem_of_getElem? (i := 954) (by decide +kernel)
set_option maxRecDepth 20000 in
theorem wk_955 : ((Jvm.Cond.instanceMethod ({ cls := "WorkspaceBoxModel", name := "vram", desc := "(I)I" } : Jvm.MethodName)) : Cond) ∈ wq_all := List.mem_of_getElem? (i := 955) (by decide +kernel)
set_option maxRecDepth 20000 in
theorem wk_956 : ((Jvm.Cond.selects "WorkspaceBoxModel" ({ cls := "WorkspaceBoxModel", name := "vram", desc := "(I)I" } : Jvm.MethodName) ({ cls := "WorkspaceBoxModel", name := "vram", desc := "(I)I" } : Jvm.MethodName)) : Cond) ∈ wq_all := List.mem_of_getElem? (i := 956) (by decide +kernel)
set_option maxRecDepth 20000 in
theorem wk_957 : ((Jvm.Cond.code ({ cls := "WorkspaceBoxModel", name := "vram", desc := "(I)I" } : Jvm.MethodName) prog_9_method_57_code (2 : Nat) (Option.some Jvm.ClassFile.FieldType.int)) : Cond) ∈ wq_all := List.mem_of_getElem? (i := 957) (by decide +kernel)
set_option maxRecDepth 20000 in
theorem wk_958 : ((Jvm.Cond.methodLink "WorkspaceBoxLaw" (71 : Nat) ({ cls := "WorkspaceBoxModel", name := "grom", desc := "(I)I" } : Jvm.MethodName)) : Cond) ∈ wq_all := List.mem_of_getElem? (i := 958) (by decide +kernel)
set_option maxRecDepth 20000 in
theorem wk_959 : ((Jvm.Cond.instanceMethod ({ cls := "WorkspaceBoxModel", name := "grom", desc := "(I)I" } : Jvm.MethodName)) : Cond) ∈ wq_all := List.mem_of_getElem? (i := 959) (by decide +kernel)
set_option maxRecDepth 20000 in
theorem wk_960 : ((Jvm.Cond.selects "WorkspaceBoxModel" ({ cls := "WorkspaceBoxModel", name := "grom", desc := "(I)I" } : Jvm.MethodName) ({ cls := "WorkspaceBoxModel", name := "grom", desc := "(I)I" } : Jvm.MethodName)) : Cond) ∈ wq_all := List.mem_of_getElem? (i := 960) (by decide +kernel)
set_option maxRecDepth 20000 in
theorem wk_961 : ((Jvm.Cond.code ({ cls := "WorkspaceBoxModel", name := "grom", desc := "(I)I" } : Jvm.MethodName) prog_9_method_58_code (2 : Nat) (Option.some Jvm.ClassFile.FieldType.int)) : Cond) ∈ wq_all := List.mem_of_getElem? (i := 961) (by decide +kernel)
set_option maxRecDepth 20000 in
theorem wk_962 : ((Jvm.Cond.methodLink "WorkspaceBoxLaw" (75 : Nat) ({ cls := "WorkspaceBoxModel", name := "frame", desc := "()V" } : Jvm.MethodName)) : Cond) ∈ wq_all := List.mem_of_getElem? (i := 962) (by decide +kernel)
set_option maxRecDepth 20000 in
theorem wk_963 : ((Jvm.Cond.instanceMethod ({ cls := "WorkspaceBoxModel", name := "frame", desc := "()V" } : Jvm.MethodName)) : Cond) ∈ wq_all := List.mem_of_getElem? (i := 963) (by decide +kernel)
set_option maxRecDepth 20000 in
theorem wk_964 : ((Jvm.Cond.selects "WorkspaceBoxModel" ({ cls := "WorkspaceBoxModel", name := "frame", desc := "()V" } : Jvm.MethodName) ({ cls := "WorkspaceBoxModel", name := "frame", desc := "()V" } : Jvm.MethodName)) : Cond) ∈ wq_all := List.mem_of_getElem? (i := 964) (by decide +kernel)
set_option maxRecDepth 20000 in
theorem wk_965 : ((Jvm.Cond.code ({ cls := "WorkspaceBoxModel", name := "frame", desc := "()V" } : Jvm.MethodName) prog_9_method_59_code (1 : Nat) (Option.none : Option Jvm.ClassFile.FieldType)) : Cond) ∈ wq_all := List.mem_of_getElem? (i := 965) (by decide +kernel)
set_option maxRecDepth 20000 in
theorem wk_966 : ((Jvm.Cond.methodLink "WorkspaceBoxLaw" (80 : Nat) ({ cls := "WorkspaceBoxModel", name := "interrupt", desc := "(I)Z" } : Jvm.MethodName)) : Cond) ∈ wq_all := List.mem_of_getElem? (i := 966) (by decide +kernel)
set_option maxRecDepth 20000 in
theorem wk_967 : ((Jvm.Cond.instanceMethod ({ cls := "WorkspaceBoxModel", name := "interrupt", desc := "(I)Z" } : Jvm.MethodName)) : Cond) ∈ wq_all := List.mem_of_getElem? (i := 967) (by decide +kernel)
set_option maxRecDepth 20000 in
theorem wk_968 : ((Jvm.Cond.selects "WorkspaceBoxModel" ({ cls := "WorkspaceBoxModel", name := "interrupt", desc := "(I)Z" } : Jvm.MethodName) ({ cls := "WorkspaceBoxModel", name := "interrupt", desc := "(I)Z" } : Jvm.MethodName)) : Cond) ∈ wq_all := List.mem_of_getElem? (i := 968) (by decide +kernel)
set_option maxRecDepth 20000 in
theorem wk_969 : ((Jvm.Cond.code ({ cls := "WorkspaceBoxModel", name := "interrupt", desc := "(I)Z" } : Jvm.MethodName) prog_9_method_60_code (2 : Nat) (Option.some Jvm.ClassFile.FieldType.boolean)) : Cond) ∈ wq_all := List.mem_of_getElem? (i := 969) (by decide +kernel)
set_option maxRecDepth 20000 in
theorem wk_970 : ((Jvm.Cond.methodLink "WorkspaceBoxLaw" (85 : Nat) ({ cls := "WorkspaceBoxModel", name := "key", desc := "(IIZ)Z" } : Jvm.MethodName)) : Cond) ∈ wq_all := List.mem_of_getElem? (i := 970) (by decide +kernel)
set_option maxRecDepth 20000 in
theorem wk_971 : ((Jvm.Cond.instanceMethod ({ cls := "WorkspaceBoxModel", name := "key", desc := "(IIZ)Z" } : Jvm.MethodName)) : Cond) ∈ wq_all := List.mem_of_getElem? (i := 971) (by decide +kernel)
set_option maxRecDepth 20000 in
theorem wk_972 : ((Jvm.Cond.selects "WorkspaceBoxModel" ({ cls := "WorkspaceBoxModel", name := "key", desc := "(IIZ)Z" } : Jvm.MethodName) ({ cls := "WorkspaceBoxModel", name := "key", desc := "(IIZ)Z" } : Jvm.MethodName)) : Cond) ∈ wq_all := List.mem_of_getElem? (i := 972) (by decide +kernel)
set_option maxRecDepth 20000 in
theorem wk_973 : ((Jvm.Cond.code ({ cls := "WorkspaceBoxModel", name := "key", desc := "(IIZ)Z" } : Jvm.MethodName) prog_9_method_61_code (4 : Nat) (Option.some Jvm.ClassFile.FieldType.boolean)) : Cond) ∈ wq_all := List.mem_of_getElem? (i := 973) (by decide +kernel)
set_option maxRecDepth 20000 in
theorem wk_974 : ((Jvm.Cond.methodLink "WorkspaceBoxLaw" (89 : Nat) ({ cls := "WorkspaceBoxModel", name := "out", desc := "(I)I" } : Jvm.MethodName)) : Cond) ∈ wq_all := List.mem_of_getElem? (i := 974) (by decide +kernel)
set_option maxRecDepth 20000 in
theorem wk_975 : ((Jvm.Cond.instanceMethod ({ cls := "WorkspaceBoxModel", name := "out", desc := "(I)I" } : Jvm.MethodName)) : Cond) ∈ wq_all := List.mem_of_getElem? (i := 975) (by decide +kernel)
set_option maxRecDepth 20000 in
theorem wk_976 : ((Jvm.Cond.selects "WorkspaceBoxModel" ({ cls := "WorkspaceBoxModel", name := "out", desc := "(I)I" } : Jvm.MethodName) ({ cls := "WorkspaceBoxModel", name := "out", desc := "(I)I" } : Jvm.MethodName)) : Cond) ∈ wq_all := List.mem_of_getElem? (i := 976) (by decide +kernel)
set_option maxRecDepth 20000 in
theorem wk_977 : ((Jvm.Cond.code ({ cls := "WorkspaceBoxModel", name := "out", desc := "(I)I" } : Jvm.MethodName) prog_9_method_62_code (2 : Nat) (Option.some Jvm.ClassFile.FieldType.int)) : Cond) ∈ wq_all := List.mem_of_getElem? (i := 977) (by decide +kernel)
set_option maxRecDepth 20000 in
theorem wk_978 : ((Jvm.Cond.methodLink "WorkspaceBoxLaw" (93 : Nat) ({ cls := "WorkspaceBoxModel", name := "in", desc := "(I)I" } : Jvm.MethodName)) : Cond) ∈ wq_all := List.mem_of_getElem? (i := 978) (by decide +kernel)
set_option maxRecDepth 20000 in
theorem wk_979 : ((Jvm.Cond.instanceMethod ({ cls := "WorkspaceBoxModel", name := "in", desc := "(I)I" } : Jvm.MethodName)) : Cond) ∈ wq_all := List.mem_of_getElem? (i := 979) (by decide +kernel)
set_option maxRecDepth 20000 in
theorem wk_980 : ((Jvm.Cond.selects "WorkspaceBoxModel" ({ cls := "WorkspaceBoxModel", name := "in", desc := "(I)I" } : Jvm.MethodName) ({ cls := "WorkspaceBoxModel", name := "in", desc := "(I)I" } : Jvm.MethodName)) : Cond) ∈ wq_all := List.mem_of_getElem? (i := 980) (by decide +kernel)
set_option maxRecDepth 20000 in
theorem wk_981 : ((Jvm.Cond.code ({ cls := "WorkspaceBoxModel", name := "in", desc := "(I)I" } : Jvm.MethodName) prog_9_method_63_code (2 : Nat) (Option.some Jvm.ClassFile.FieldType.int)) : Cond) ∈ wq_all := List.mem_of_getElem? (i := 981) (by decide +kernel)
set_option maxRecDepth 20000 in
theorem wk_982 : ((Jvm.Cond.methodLink "WorkspaceBoxLaw" (97 : Nat) ({ cls := "WorkspaceBoxModel", name := "pixel", desc := "(II)I" } : Jvm.MethodName)) : Cond) ∈ wq_all := List.mem_of_getElem? (i := 982) (by decide +kernel)
set_option maxRecDepth 20000 in
theorem wk_983 : ((Jvm.Cond.instanceMethod ({ cls := "WorkspaceBoxModel", name := "pixel", desc := "(II)I" } : Jvm.MethodName)) : Cond) ∈ wq_all := List.mem_of_getElem? (i := 983) (by decide +kernel)
set_option maxRecDepth 20000 in
theorem wk_984 : ((Jvm.Cond.selects "WorkspaceBoxModel" ({ cls := "WorkspaceBoxModel", name := "pixel", desc := "(II)I" } : Jvm.MethodName) ({ cls := "WorkspaceBoxModel", name := "pixel", desc := "(II)I" } : Jvm.MethodName)) : Cond) ∈ wq_all := List.mem_of_getElem? (i := 984) (by decide +kernel)
set_option maxRecDepth 20000 in
theorem wk_985 : ((Jvm.Cond.code ({ cls := "WorkspaceBoxModel", name := "pixel", desc := "(II)I" } : Jvm.MethodName) prog_9_method_64_code (8 : Nat) (Option.some Jvm.ClassFile.FieldType.int)) : Cond) ∈ wq_all := List.mem_of_getElem? (i := 985) (by decide +kernel)
