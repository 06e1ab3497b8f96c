theorem dX4_isNone_29 : decode cX4_isNone 29 = .ok (.sipush 2047, 3) := by decide +kernel
theorem dX4_isNone_32 : decode cX4_isNone 32 = .ok (.if_icmp .le 17, 3) := by decide +kernel
theorem dX4_isNone_35 : decode cX4_isNone 35 = .ok (.iload_n 0, 1) := by decide +kernel
theorem dX4_isNone_36 : decode cX4_isNone 36 = .ok (.sipush 3072, 3) := by decide +kernel
theorem dX4_isNone_39 : decode cX4_isNone 39 = .ok (.if_icmp .lt 14, 3) := by decide +kernel
theorem dX4_isNone_42 : decode cX4_isNone 42 = .ok (.iload_n 0, 1) := by decide +kernel
theorem dX4_isNone_43 : decode cX4_isNone 43 = .ok (.sipush 4095, 3) := by decide +kernel
theorem dX4_isNone_46 : decode cX4_isNone 46 = .ok (.if_icmp .gt 7, 3) := by decide +kernel
theorem dX4_isNone_49 : decode cX4_isNone 49 = .ok (.iconst 1, 1) := by decide +kernel
theorem dX4_isNone_50 : decode cX4_isNone 50 = .ok (.goto 4, 3) := by decide +kernel
theorem dX4_isNone_53 : decode cX4_isNone 53 = .ok (.iconst 0, 1) := by decide +kernel
theorem dX4_isNone_54 : decode cX4_isNone 54 = .ok (.ireturn, 1) := by decide +kernel
theorem dX4_perform_0 : decode cX4_perform 0 = .ok (.aload_n 0, 1) := by decide +kernel
theorem dX4_perform_1 : decode cX4_perform 1 = .ok (.getfield 79, 3) := by decide +kernel
theorem dX4_perform_4 : decode cX4_perform 4 = .ok (.istore_n 1, 1) := by decide +kernel
theorem dX4_perform_5 : decode cX4_perform 5 = .ok (.aload_n 0, 1) := by decide +kernel
theorem dX4_perform_6 : decode cX4_perform 6 = .ok (.iconst 0, 1) := by decide +kernel
theorem dX4_perform_7 : decode cX4_perform 7 = .ok (.putfield 44, 3) := by decide +kernel
theorem dX4_perform_10 : decode cX4_perform 10 = .ok (.aload_n 0, 1) := by decide +kernel
theorem dX4_perform_11 : decode cX4_perform 11 = .ok (.dup, 1) := by decide +kernel
theorem dX4_perform_12 : decode cX4_perform 12 = .ok (.getfield 94, 3) := by decide +kernel
theorem dX4_perform_15 : decode cX4_perform 15 = .ok (.iconst 1, 1) := by decide +kernel
theorem dX4_perform_16 : decode cX4_perform 16 = .ok (.iadd, 1) := by decide +kernel
theorem dX4_perform_17 : decode cX4_perform 17 = .ok (.putfield 94, 3) := by decide +kernel
theorem dX4_perform_20 : decode cX4_perform 20 = .ok (.iload_n 1, 1) := by decide +kernel
theorem dX4_perform_21 : decode cX4_perform 21 = .ok (.sipush 672, 3) := by decide +kernel
theorem dX4_perform_24 : decode cX4_perform 24 = .ok (.if_icmp .ge 11, 3) := by decide +kernel
theorem dX4_perform_27 : decode cX4_perform 27 = .ok (.aload_n 0, 1) := by decide +kernel
theorem dX4_perform_28 : decode cX4_perform 28 = .ok (.iload_n 1, 1) := by decide +kernel
theorem dX4_perform_29 : decode cX4_perform 29 = .ok (.invokevirtual 97, 3) := by decide +kernel
theorem dX4_perform_32 : decode cX4_perform 32 = .ok (.goto 128, 3) := by decide +kernel
theorem dX4_perform_35 : decode cX4_perform 35 = .ok (.iload_n 1, 1) := by decide +kernel
theorem dX4_perform_36 : decode cX4_perform 36 = .ok (.sipush 1024, 3) := by decide +kernel
theorem dX4_perform_39 : decode cX4_perform 39 = .ok (.if_icmp .ge 11, 3) := by decide +kernel
theorem dX4_perform_42 : decode cX4_perform 42 = .ok (.aload_n 0, 1) := by decide +kernel
theorem dX4_perform_43 : decode cX4_perform 43 = .ok (.iload_n 1, 1) := by decide +kernel
theorem dX4_perform_44 : decode cX4_perform 44 = .ok (.invokevirtual 100, 3) := by decide +kernel
theorem dX4_perform_47 : decode cX4_perform 47 = .ok (.goto 113, 3) := by decide +kernel
theorem dX4_perform_50 : decode cX4_perform 50 = .ok (.iload_n 1, 1) := by decide +kernel
theorem dX4_perform_51 : decode cX4_perform 51 = .ok (.sipush 2048, 3) := by decide +kernel
theorem dX4_perform_54 : decode cX4_perform 54 = .ok (.if_icmp .ge 11, 3) := by decide +kernel
theorem dX4_perform_57 : decode cX4_perform 57 = .ok (.aload_n 0, 1) := by decide +kernel
theorem dX4_perform_58 : decode cX4_perform 58 = .ok (.iload_n 1, 1) := by decide +kernel
theorem dX4_perform_59 : decode cX4_perform 59 = .ok (.invokevirtual 103, 3) := by decide +kernel
theorem dX4_perform_62 : decode cX4_perform 62 = .ok (.goto 98, 3) := by decide +kernel
theorem dX4_perform_65 : decode cX4_perform 65 = .ok (.iload_n 1, 1) := by decide +kernel
theorem dX4_perform_66 : decode cX4_perform 66 = .ok (.sipush 4096, 3) := by decide +kernel
theorem dX4_perform_69 : decode cX4_perform 69 = .ok (.if_icmp .ge 11, 3) := by decide +kernel
theorem dX4_perform_72 : decode cX4_perform 72 = .ok (.aload_n 0, 1) := by decide +kernel
theorem dX4_perform_73 : decode cX4_perform 73 = .ok (.iload_n 1, 1) := by decide +kernel
theorem dX4_perform_74 : decode cX4_perform 74 = .ok (.invokevirtual 106, 3) := by decide +kernel
theorem dX4_perform_77 : decode cX4_perform 77 = .ok (.goto 83, 3) := by decide +kernel
theorem dX4_perform_80 : decode cX4_perform 80 = .ok (.iload_n 1, 1) := by decide +kernel
theorem dX4_perform_81 : decode cX4_perform 81 = .ok (.sipush 7424, 3) := by decide +kernel
theorem dX4_perform_84 : decode cX4_perform 84 = .ok (.if_icmp .ge 11, 3) := by decide +kernel
theorem dX4_perform_87 : decode cX4_perform 87 = .ok (.aload_n 0, 1) := by decide +kernel
theorem dX4_perform_88 : decode cX4_perform 88 = .ok (.iload_n 1, 1) := by decide +kernel
theorem dX4_perform_89 : decode cX4_perform 89 = .ok (.invokevirtual 109, 3) := by decide +kernel
theorem dX4_perform_92 : decode cX4_perform 92 = .ok (.goto 68, 3) := by decide +kernel
theorem dX4_perform_95 : decode cX4_perform 95 = .ok (.iload_n 1, 1) := by decide +kernel
theorem dX4_perform_96 : decode cX4_perform 96 = .ok (.sipush 8192, 3) := by decide +kernel
theorem dX4_perform_99 : decode cX4_perform 99 = .ok (.if_icmp .ge 11, 3) := by decide +kernel
theorem dX4_perform_102 : decode cX4_perform 102 = .ok (.aload_n 0, 1) := by decide +kernel
theorem dX4_perform_103 : decode cX4_perform 103 = .ok (.iload_n 1, 1) := by decide +kernel
theorem dX4_perform_104 : decode cX4_perform 104 = .ok (.invokevirtual 112, 3) := by decide +kernel
theorem dX4_perform_107 : decode cX4_perform 107 = .ok (.goto 53, 3) := by decide +kernel
theorem dX4_perform_110 : decode cX4_perform 110 = .ok (.iload_n 1, 1) := by decide +kernel
theorem dX4_perform_111 : decode cX4_perform 111 = .ok (.sipush 12288, 3) := by decide +kernel
theorem dX4_perform_114 : decode cX4_perform 114 = .ok (.if_icmp .ge 11, 3) := by decide +kernel
theorem dX4_perform_117 : decode cX4_perform 117 = .ok (.aload_n 0, 1) := by decide +kernel
theorem dX4_perform_118 : decode cX4_perform 118 = .ok (.iload_n 1, 1) := by decide +kernel
theorem dX4_perform_119 : decode cX4_perform 119 = .ok (.invokevirtual 115, 3) := by decide +kernel
theorem dX4_perform_122 : decode cX4_perform 122 = .ok (.goto 38, 3) := by decide +kernel
theorem dX4_perform_125 : decode cX4_perform 125 = .ok (.iload_n 1, 1) := by decide +kernel
theorem dX4_perform_126 : decode cX4_perform 126 = .ok (.sipush 14336, 3) := by decide +kernel
theorem dX4_perform_129 : decode cX4_perform 129 = .ok (.if_icmp .ge 11, 3) := by decide +kernel
theorem dX4_perform_132 : decode cX4_perform 132 = .ok (.aload_n 0, 1) := by decide +kernel
theorem dX4_perform_133 : decode cX4_perform 133 = .ok (.iload_n 1, 1) := by decide +kernel
theorem dX4_perform_134 : decode cX4_perform 134 = .ok (.invokevirtual 118, 3) := by decide +kernel
theorem dX4_perform_137 : decode cX4_perform 137 = .ok (.goto 23, 3) := by decide +kernel
theorem dX4_perform_140 : decode cX4_perform 140 = .ok (.iload_n 1, 1) := by decide +kernel
theorem dX4_perform_141 : decode cX4_perform 141 = .ok (.sipush 16384, 3) := by decide +kernel
theorem dX4_perform_144 : decode cX4_perform 144 = .ok (.if_icmp .ge 11, 3) := by decide +kernel
theorem dX4_perform_147 : decode cX4_perform 147 = .ok (.aload_n 0, 1) := by decide +kernel
theorem dX4_perform_148 : decode cX4_perform 148 = .ok (.iload_n 1, 1) := by decide +kernel
theorem dX4_perform_149 : decode cX4_perform 149 = .ok (.invokevirtual 121, 3) := by decide +kernel
theorem dX4_perform_152 : decode cX4_perform 152 = .ok (.goto 8, 3) := by decide +kernel
theorem dX4_perform_155 : decode cX4_perform 155 = .ok (.aload_n 0, 1) := by decide +kernel
theorem dX4_perform_156 : decode cX4_perform 156 = .ok (.iload_n 1, 1) := by decide +kernel
theorem dX4_perform_157 : decode cX4_perform 157 = .ok (.invokevirtual 124, 3) := by decide +kernel
theorem dX4_perform_160 : decode cX4_perform 160 = .ok (.return_, 1) := by decide +kernel
theorem dX4_nextWord_0 : decode cX4_nextWord 0 = .ok (.aload_n 0, 1) := by decide +kernel
theorem dX4_nextWord_1 : decode cX4_nextWord 1 = .ok (.getfield 13, 3) := by decide +kernel
theorem dX4_nextWord_4 : decode cX4_nextWord 4 = .ok (.aload_n 0, 1) := by decide +kernel
theorem dX4_nextWord_5 : decode cX4_nextWord 5 = .ok (.getfield 35, 3) := by decide +kernel
theorem dX4_nextWord_8 : decode cX4_nextWord 8 = .ok (.invokevirtual 25, 3) := by decide +kernel
theorem dX4_nextWord_11 : decode cX4_nextWord 11 = .ok (.istore_n 1, 1) := by decide +kernel
theorem dX4_nextWord_12 : decode cX4_nextWord 12 = .ok (.aload_n 0, 1) := by decide +kernel
theorem dX4_nextWord_13 : decode cX4_nextWord 13 = .ok (.aload_n 0, 1) := by decide +kernel
theorem dX4_nextWord_14 : decode cX4_nextWord 14 = .ok (.getfield 35, 3) := by decide +kernel
theorem dX4_nextWord_17 : decode cX4_nextWord 17 = .ok (.iconst 2, 1) := by decide +kernel
theorem dX4_nextWord_18 : decode cX4_nextWord 18 = .ok (.iadd, 1) := by decide +kernel
theorem dX4_nextWord_19 : decode cX4_nextWord 19 = .ok (.ldc 31, 2) := by decide +kernel
theorem dX4_nextWord_21 : decode cX4_nextWord 21 = .ok (.iand, 1) := by decide +kernel
theorem dX4_nextWord_22 : decode cX4_nextWord 22 = .ok (.putfield 35, 3) := by decide +kernel
theorem dX4_nextWord_25 : decode cX4_nextWord 25 = .ok (.iload_n 1, 1) := by decide +kernel
theorem dX4_nextWord_26 : decode cX4_nextWord 26 = .ok (.ireturn, 1) := by decide +kernel
theorem dX4_registerAddress_0 : decode cX4_registerAddress 0 = .ok (.aload_n 0, 1) := by decide +kernel
theorem dX4_registerAddress_1 : decode cX4_registerAddress 1 = .ok (.getfield 32, 3) := by decide +kernel
theorem dX4_registerAddress_4 : decode cX4_registerAddress 4 = .ok (.iconst 2, 1) := by decide +kernel
theorem dX4_registerAddress_5 : decode cX4_registerAddress 5 = .ok (.iload_n 1, 1) := by decide +kernel
theorem dX4_registerAddress_6 : decode cX4_registerAddress 6 = .ok (.imul, 1) := by decide +kernel
theorem dX4_registerAddress_7 : decode cX4_registerAddress 7 = .ok (.iadd, 1) := by decide +kernel
theorem dX4_registerAddress_8 : decode cX4_registerAddress 8 = .ok (.ldc 127, 2) := by decide +kernel
theorem dX4_registerAddress_10 : decode cX4_registerAddress 10 = .ok (.iand, 1) := by decide +kernel
theorem dX4_registerAddress_11 : decode cX4_registerAddress 11 = .ok (.ireturn, 1) := by decide +kernel
theorem dX4_operandAddress_0 : decode cX4_operandAddress 0 = .ok (.iload_n 1, 1) := by decide +kernel
theorem dX4_operandAddress_1 : decode cX4_operandAddress 1 = .ok (.bipush 15, 2) := by decide +kernel
theorem dX4_operandAddress_3 : decode cX4_operandAddress 3 = .ok (.iand, 1) := by decide +kernel
theorem dX4_operandAddress_4 : decode cX4_operandAddress 4 = .ok (.istore_n 3, 1) := by decide +kernel
theorem dX4_operandAddress_5 : decode cX4_operandAddress 5 = .ok (.aload_n 0, 1) := by decide +kernel
theorem dX4_operandAddress_6 : decode cX4_operandAddress 6 = .ok (.iload_n 3, 1) := by decide +kernel
theorem dX4_operandAddress_7 : decode cX4_operandAddress 7 = .ok (.invokevirtual 128, 3) := by decide +kernel
theorem dX4_operandAddress_10 : decode cX4_operandAddress 10 = .ok (.istore 4, 2) := by decide +kernel
theorem dX4_operandAddress_12 : decode cX4_operandAddress 12 = .ok (.iload_n 1, 1) := by decide +kernel
theorem dX4_operandAddress_13 : decode cX4_operandAddress 13 = .ok (.iconst 4, 1) := by decide +kernel
theorem dX4_operandAddress_14 : decode cX4_operandAddress 14 = .ok (.ishr, 1) := by decide +kernel
theorem dX4_operandAddress_15 : decode cX4_operandAddress 15 = .ok (.iconst 3, 1) := by decide +kernel
theorem dX4_operandAddress_16 : decode cX4_operandAddress 16 = .ok (.iand, 1) := by decide +kernel
theorem dX4_operandAddress_17 : decode cX4_operandAddress 17 = .ok (.tableswitch 91 0 2 #[27, 30, 40], 27) := by decide +kernel
theorem dX4_operandAddress_44 : decode cX4_operandAddress 44 = .ok (.iload 4, 2) := by decide +kernel
theorem dX4_operandAddress_46 : decode cX4_operandAddress 46 = .ok (.ireturn, 1) := by decide +kernel
theorem dX4_operandAddress_47 : decode cX4_operandAddress 47 = .ok (.aload_n 0, 1) := by decide +kernel
theorem dX4_operandAddress_48 : decode cX4_operandAddress 48 = .ok (.getfield 13, 3) := by decide +kernel
theorem dX4_operandAddress_51 : decode cX4_operandAddress 51 = .ok (.iload 4, 2) := by decide +kernel
theorem dX4_operandAddress_53 : decode cX4_operandAddress 53 = .ok (.invokevirtual 25, 3) := by decide +kernel
theorem dX4_operandAddress_56 : decode cX4_operandAddress 56 = .ok (.ireturn, 1) := by decide +kernel
theorem dX4_operandAddress_57 : decode cX4_operandAddress 57 = .ok (.aload_n 0, 1) := by decide +kernel
theorem dX4_operandAddress_58 : decode cX4_operandAddress 58 = .ok (.getfield 13, 3) := by decide +kernel
theorem dX4_operandAddress_61 : decode cX4_operandAddress 61 = .ok (.aload_n 0, 1) := by decide +kernel
theorem dX4_operandAddress_62 : decode cX4_operandAddress 62 = .ok (.getfield 35, 3) := by decide +kernel
theorem dX4_operandAddress_65 : decode cX4_operandAddress 65 = .ok (.invokevirtual 25, 3) := by decide +kernel
theorem dX4_operandAddress_68 : decode cX4_operandAddress 68 = .ok (.istore 5, 2) := by decide +kernel
theorem dX4_operandAddress_70 : decode cX4_operandAddress 70 = .ok (.aload_n 0, 1) := by decide +kernel
theorem dX4_operandAddress_71 : decode cX4_operandAddress 71 = .ok (.aload_n 0, 1) := by decide +kernel
theorem dX4_operandAddress_72 : decode cX4_operandAddress 72 = .ok (.getfield 35, 3) := by decide +kernel
theorem dX4_operandAddress_75 : decode cX4_operandAddress 75 = .ok (.iconst 2, 1) := by decide +kernel
theorem dX4_operandAddress_76 : decode cX4_operandAddress 76 = .ok (.iadd, 1) := by decide +kernel
theorem dX4_operandAddress_77 : decode cX4_operandAddress 77 = .ok (.ldc 31, 2) := by decide +kernel
theorem dX4_operandAddress_79 : decode cX4_operandAddress 79 = .ok (.iand, 1) := by decide +kernel
theorem dX4_operandAddress_80 : decode cX4_operandAddress 80 = .ok (.putfield 35, 3) := by decide +kernel
theorem dX4_operandAddress_83 : decode cX4_operandAddress 83 = .ok (.iload_n 3, 1) := by decide +kernel
theorem dX4_operandAddress_84 : decode cX4_operandAddress 84 = .ok (.ifCond .ne 8, 3) := by decide +kernel
theorem dX4_operandAddress_87 : decode cX4_operandAddress 87 = .ok (.iload 5, 2) := by decide +kernel
theorem dX4_operandAddress_89 : decode cX4_operandAddress 89 = .ok (.goto 18, 3) := by decide +kernel
theorem dX4_operandAddress_92 : decode cX4_operandAddress 92 = .ok (.iload 5, 2) := by decide +kernel
theorem dX4_operandAddress_94 : decode cX4_operandAddress 94 = .ok (.aload_n 0, 1) := by decide +kernel
theorem dX4_operandAddress_95 : decode cX4_operandAddress 95 = .ok (.getfield 13, 3) := by decide +kernel
theorem dX4_operandAddress_98 : decode cX4_operandAddress 98 = .ok (.iload 4, 2) := by decide +kernel
theorem dX4_operandAddress_100 : decode cX4_operandAddress 100 = .ok (.invokevirtual 25, 3) := by decide +kernel
theorem dX4_operandAddress_103 : decode cX4_operandAddress 103 = .ok (.iadd, 1) := by decide +kernel
theorem dX4_operandAddress_104 : decode cX4_operandAddress 104 = .ok (.ldc 127, 2) := by decide +kernel
theorem dX4_operandAddress_106 : decode cX4_operandAddress 106 = .ok (.iand, 1) := by decide +kernel
theorem dX4_operandAddress_107 : decode cX4_operandAddress 107 = .ok (.ireturn, 1) := by decide +kernel
theorem dX4_operandAddress_108 : decode cX4_operandAddress 108 = .ok (.aload_n 0, 1) := by decide +kernel
theorem dX4_operandAddress_109 : decode cX4_operandAddress 109 = .ok (.getfield 13, 3) := by decide +kernel
theorem dX4_operandAddress_112 : decode cX4_operandAddress 112 = .ok (.iload 4, 2) := by decide +kernel
theorem dX4_operandAddress_114 : decode cX4_operandAddress 114 = .ok (.invokevirtual 25, 3) := by decide +kernel
theorem dX4_operandAddress_117 : decode cX4_operandAddress 117 = .ok (.istore 5, 2) := by decide +kernel
theorem dX4_operandAddress_119 : decode cX4_operandAddress 119 = .ok (.aload_n 0, 1) := by decide +kernel
theorem dX4_operandAddress_120 : decode cX4_operandAddress 120 = .ok (.getfield 13, 3) := by decide +kernel
theorem dX4_operandAddress_123 : decode cX4_operandAddress 123 = .ok (.iload 4, 2) := by decide +kernel
theorem dX4_operandAddress_125 : decode cX4_operandAddress 125 = .ok (.iload 5, 2) := by decide +kernel
theorem dX4_operandAddress_127 : decode cX4_operandAddress 127 = .ok (.iload_n 2, 1) := by decide +kernel
theorem dX4_operandAddress_128 : decode cX4_operandAddress 128 = .ok (.ifCond .eq 7, 3) := by decide +kernel
theorem dX4_operandAddress_131 : decode cX4_operandAddress 131 = .ok (.iconst 1, 1) := by decide +kernel
theorem dX4_operandAddress_132 : decode cX4_operandAddress 132 = .ok (.goto 4, 3) := by decide +kernel
theorem dX4_operandAddress_135 : decode cX4_operandAddress 135 = .ok (.iconst 2, 1) := by decide +kernel
theorem dX4_operandAddress_136 : decode cX4_operandAddress 136 = .ok (.iadd, 1) := by decide +kernel
theorem dX4_operandAddress_137 : decode cX4_operandAddress 137 = .ok (.invokevirtual 131, 3) := by decide +kernel
theorem dX4_operandAddress_140 : decode cX4_operandAddress 140 = .ok (.iload 5, 2) := by decide +kernel
theorem dX4_operandAddress_142 : decode cX4_operandAddress 142 = .ok (.ireturn, 1) := by decide +kernel
theorem dX4_enter_0 : decode cX4_enter 0 = .ok (.aload_n 0, 1) := by decide +kernel
theorem dX4_enter_1 : decode cX4_enter 1 = .ok (.getfield 13, 3) := by decide +kernel
theorem dX4_enter_4 : decode cX4_enter 4 = .ok (.iload_n 1, 1) := by decide +kernel
theorem dX4_enter_5 : decode cX4_enter 5 = .ok (.invokevirtual 25, 3) := by decide +kernel
theorem dX4_enter_8 : decode cX4_enter 8 = .ok (.istore_n 2, 1) := by decide +kernel
theorem dX4_enter_9 : decode cX4_enter 9 = .ok (.aload_n 0, 1) := by decide +kernel
theorem dX4_enter_10 : decode cX4_enter 10 = .ok (.getfield 13, 3) := by decide +kernel
theorem dX4_enter_13 : decode cX4_enter 13 = .ok (.iload_n 1, 1) := by decide +kernel
theorem dX4_enter_14 : decode cX4_enter 14 = .ok (.iconst 2, 1) := by decide +kernel
theorem dX4_enter_15 : decode cX4_enter 15 = .ok (.iadd, 1) := by decide +kernel
theorem dX4_enter_16 : decode cX4_enter 16 = .ok (.invokevirtual 25, 3) := by decide +kernel
theorem dX4_enter_19 : decode cX4_enter 19 = .ok (.istore_n 3, 1) := by decide +kernel
theorem dX4_enter_20 : decode cX4_enter 20 = .ok (.aload_n 0, 1) := by decide +kernel
theorem dX4_enter_21 : decode cX4_enter 21 = .ok (.getfield 32, 3) := by decide +kernel
theorem dX4_enter_24 : decode cX4_enter 24 = .ok (.istore 4, 2) := by decide +kernel
theorem dX4_enter_26 : decode cX4_enter 26 = .ok (.aload_n 0, 1) := by decide +kernel
theorem dX4_enter_27 : decode cX4_enter 27 = .ok (.iload_n 2, 1) := by decide +kernel
theorem dX4_enter_28 : decode cX4_enter 28 = .ok (.ldc 31, 2) := by decide +kernel
theorem dX4_enter_30 : decode cX4_enter 30 = .ok (.iand, 1) := by decide +kernel
theorem dX4_enter_31 : decode cX4_enter 31 = .ok (.putfield 32, 3) := by decide +kernel
theorem dX4_enter_34 : decode cX4_enter 34 = .ok (.aload_n 0, 1) := by decide +kernel
theorem dX4_enter_35 : decode cX4_enter 35 = .ok (.getfield 13, 3) := by decide +kernel
theorem dX4_enter_38 : decode cX4_enter 38 = .ok (.aload_n 0, 1) := by decide +kernel
theorem dX4_enter_39 : decode cX4_enter 39 = .ok (.bipush 13, 2) := by decide +kernel
theorem dX4_enter_41 : decode cX4_enter 41 = .ok (.invokevirtual 128, 3) := by decide +kernel
theorem dX4_enter_44 : decode cX4_enter 44 = .ok (.iload 4, 2) := by decide +kernel
theorem dX4_enter_46 : decode cX4_enter 46 = .ok (.invokevirtual 131, 3) := by decide +kernel
theorem dX4_enter_49 : decode cX4_enter 49 = .ok (.aload_n 0, 1) := by decide +kernel
theorem dX4_enter_50 : decode cX4_enter 50 = .ok (.getfield 13, 3) := by decide +kernel
theorem dX4_enter_53 : decode cX4_enter 53 = .ok (.aload_n 0, 1) := by decide +kernel
theorem dX4_enter_54 : decode cX4_enter 54 = .ok (.bipush 14, 2) := by decide +kernel
theorem dX4_enter_56 : decode cX4_enter 56 = .ok (.invokevirtual 128, 3) := by decide +kernel
theorem dX4_enter_59 : decode cX4_enter 59 = .ok (.aload_n 0, 1) := by decide +kernel
theorem dX4_enter_60 : decode cX4_enter 60 = .ok (.getfield 35, 3) := by decide +kernel
theorem dX4_enter_63 : decode cX4_enter 63 = .ok (.invokevirtual 131, 3) := by decide +kernel
theorem dX4_enter_66 : decode cX4_enter 66 = .ok (.aload_n 0, 1) := by decide +kernel
theorem dX4_enter_67 : decode cX4_enter 67 = .ok (.getfield 13, 3) := by decide +kernel
theorem dX4_enter_70 : decode cX4_enter 70 = .ok (.aload_n 0, 1) := by decide +kernel
theorem dX4_enter_71 : decode cX4_enter 71 = .ok (.bipush 15, 2) := by decide +kernel
theorem dX4_enter_73 : decode cX4_enter 73 = .ok (.invokevirtual 128, 3) := by decide +kernel
theorem dX4_enter_76 : decode cX4_enter 76 = .ok (.aload_n 0, 1) := by decide +kernel
theorem dX4_enter_77 : decode cX4_enter 77 = .ok (.getfield 38, 3) := by decide +kernel
theorem dX4_enter_80 : decode cX4_enter 80 = .ok (.invokevirtual 131, 3) := by decide +kernel
theorem dX4_enter_83 : decode cX4_enter 83 = .ok (.aload_n 0, 1) := by decide +kernel
theorem dX4_enter_84 : decode cX4_enter 84 = .ok (.iload_n 3, 1) := by decide +kernel
theorem dX4_enter_85 : decode cX4_enter 85 = .ok (.ldc 31, 2) := by decide +kernel
theorem dX4_enter_87 : decode cX4_enter 87 = .ok (.iand, 1) := by decide +kernel
theorem dX4_enter_88 : decode cX4_enter 88 = .ok (.putfield 35, 3) := by decide +kernel
theorem dX4_enter_91 : decode cX4_enter 91 = .ok (.aload_n 0, 1) := by decide +kernel
theorem dX4_enter_92 : decode cX4_enter 92 = .ok (.iconst 1, 1) := by decide +kernel
theorem dX4_enter_93 : decode cX4_enter 93 = .ok (.putfield 44, 3) := by decide +kernel
theorem dX4_enter_96 : decode cX4_enter 96 = .ok (.return_, 1) := by decide +kernel
theorem dX4_flag_0 : decode cX4_flag 0 = .ok (.aload_n 0, 1) := by decide +kernel
theorem dX4_flag_1 : decode cX4_flag 1 = .ok (.iload_n 2, 1) := by decide +kernel
theorem dX4_flag_2 : decode cX4_flag 2 = .ok (.ifCond .eq 12, 3) := by decide +kernel
theorem dX4_flag_5 : decode cX4_flag 5 = .ok (.aload_n 0, 1) := by decide +kernel
theorem dX4_flag_6 : decode cX4_flag 6 = .ok (.getfield 38, 3) := by decide +kernel
theorem dX4_flag_9 : decode cX4_flag 9 = .ok (.iload_n 1, 1) := by decide +kernel
theorem dX4_flag_10 : decode cX4_flag 10 = .ok (.ior, 1) := by decide +kernel
theorem dX4_flag_11 : decode cX4_flag 11 = .ok (.goto 11, 3) := by decide +kernel
theorem dX4_flag_14 : decode cX4_flag 14 = .ok (.aload_n 0, 1) := by decide +kernel
theorem dX4_flag_15 : decode cX4_flag 15 = .ok (.getfield 38, 3) := by decide +kernel
theorem dX4_flag_18 : decode cX4_flag 18 = .ok (.iload_n 1, 1) := by decide +kernel
theorem dX4_flag_19 : decode cX4_flag 19 = .ok (.iconst (-1), 1) := by decide +kernel
theorem dX4_flag_20 : decode cX4_flag 20 = .ok (.ixor, 1) := by decide +kernel
theorem dX4_flag_21 : decode cX4_flag 21 = .ok (.iand, 1) := by decide +kernel
theorem dX4_flag_22 : decode cX4_flag 22 = .ok (.putfield 38, 3) := by decide +kernel
theorem dX4_flag_25 : decode cX4_flag 25 = .ok (.return_, 1) := by decide +kernel
theorem dX4_compare_0 : decode cX4_compare 0 = .ok (.iload_n 3, 1) := by decide +kernel
theorem dX4_compare_1 : decode cX4_compare 1 = .ok (.ifCond .eq 8, 3) := by decide +kernel
theorem dX4_compare_4 : decode cX4_compare 4 = .ok (.iload_n 1, 1) := by decide +kernel
theorem dX4_compare_5 : decode cX4_compare 5 = .ok (.i2b, 1) := by decide +kernel
theorem dX4_compare_6 : decode cX4_compare 6 = .ok (.goto 5, 3) := by decide +kernel
theorem dX4_compare_9 : decode cX4_compare 9 = .ok (.iload_n 1, 1) := by decide +kernel
theorem dX4_compare_10 : decode cX4_compare 10 = .ok (.i2s, 1) := by decide +kernel
theorem dX4_compare_11 : decode cX4_compare 11 = .ok (.istore 4, 2) := by decide +kernel
theorem dX4_compare_13 : decode cX4_compare 13 = .ok (.iload_n 3, 1) := by decide +kernel
theorem dX4_compare_14 : decode cX4_compare 14 = .ok (.ifCond .eq 8, 3) := by decide +kernel
theorem dX4_compare_17 : decode cX4_compare 17 = .ok (.iload_n 2, 1) := by decide +kernel
theorem dX4_compare_18 : decode cX4_compare 18 = .ok (.i2b, 1) := by decide +kernel
theorem dX4_compare_19 : decode cX4_compare 19 = .ok (.goto 5, 3) := by decide +kernel
theorem dX4_compare_22 : decode cX4_compare 22 = .ok (.iload_n 2, 1) := by decide +kernel
theorem dX4_compare_23 : decode cX4_compare 23 = .ok (.i2s, 1) := by decide +kernel
theorem dX4_compare_24 : decode cX4_compare 24 = .ok (.istore 5, 2) := by decide +kernel
theorem dX4_compare_26 : decode cX4_compare 26 = .ok (.aload_n 0, 1) := by decide +kernel
theorem dX4_compare_27 : decode cX4_compare 27 = .ok (.ldc 135, 2) := by decide +kernel
theorem dX4_compare_29 : decode cX4_compare 29 = .ok (.iload_n 1, 1) := by decide +kernel
theorem dX4_compare_30 : decode cX4_compare 30 = .ok (.iload_n 2, 1) := by decide +kernel
theorem dX4_compare_31 : decode cX4_compare 31 = .ok (.if_icmp .le 7, 3) := by decide +kernel
theorem dX4_compare_34 : decode cX4_compare 34 = .ok (.iconst 1, 1) := by decide +kernel
theorem dX4_compare_35 : decode cX4_compare 35 = .ok (.goto 4, 3) := by decide +kernel
theorem dX4_compare_38 : decode cX4_compare 38 = .ok (.iconst 0, 1) := by decide +kernel
theorem dX4_compare_39 : decode cX4_compare 39 = .ok (.invokevirtual 136, 3) := by decide +kernel
theorem dX4_compare_42 : decode cX4_compare 42 = .ok (.aload_n 0, 1) := by decide +kernel
theorem dX4_compare_43 : decode cX4_compare 43 = .ok (.sipush 16384, 3) := by decide +kernel
theorem dX4_compare_46 : decode cX4_compare 46 = .ok (.iload 4, 2) := by decide +kernel
theorem dX4_compare_48 : decode cX4_compare 48 = .ok (.iload 5, 2) := by decide +kernel
theorem dX4_compare_50 : decode cX4_compare 50 = .ok (.if_icmp .le 7, 3) := by decide +kernel
theorem dX4_compare_53 : decode cX4_compare 53 = .ok (.iconst 1, 1) := by decide +kernel
theorem dX4_compare_54 : decode cX4_compare 54 = .ok (.goto 4, 3) := by decide +kernel
theorem dX4_compare_57 : decode cX4_compare 57 = .ok (.iconst 0, 1) := by decide +kernel
theorem dX4_compare_58 : decode cX4_compare 58 = .ok (.invokevirtual 136, 3) := by decide +kernel
theorem dX4_compare_61 : decode cX4_compare 61 = .ok (.aload_n 0, 1) := by decide +kernel
theorem dX4_compare_62 : decode cX4_compare 62 = .ok (.sipush 8192, 3) := by decide +kernel
theorem dX4_compare_65 : decode cX4_compare 65 = .ok (.iload_n 1, 1) := by decide +kernel
theorem dX4_compare_66 : decode cX4_compare 66 = .ok (.iload_n 2, 1) := by decide +kernel
theorem dX4_compare_67 : decode cX4_compare 67 = .ok (.if_icmp .ne 7, 3) := by decide +kernel
theorem dX4_compare_70 : decode cX4_compare 70 = .ok (.iconst 1, 1) := by decide +kernel
theorem dX4_compare_71 : decode cX4_compare 71 = .ok (.goto 4, 3) := by decide +kernel
theorem dX4_compare_74 : decode cX4_compare 74 = .ok (.iconst 0, 1) := by decide +kernel
theorem dX4_compare_75 : decode cX4_compare 75 = .ok (.invokevirtual 136, 3) := by decide +kernel
theorem dX4_compare_78 : decode cX4_compare 78 = .ok (.return_, 1) := by decide +kernel
theorem dX4_parity_0 : decode cX4_parity 0 = .ok (.aload_n 0, 1) := by decide +kernel
theorem dX4_parity_1 : decode cX4_parity 1 = .ok (.sipush 1024, 3) := by decide +kernel
theorem dX4_parity_4 : decode cX4_parity 4 = .ok (.iload_n 1, 1) := by decide +kernel
theorem dX4_parity_5 : decode cX4_parity 5 = .ok (.sipush 255, 3) := by decide +kernel
theorem dX4_parity_8 : decode cX4_parity 8 = .ok (.iand, 1) := by decide +kernel
theorem dX4_parity_9 : decode cX4_parity 9 = .ok (.invokestatic 140, 3) := by decide +kernel
theorem dX4_parity_12 : decode cX4_parity 12 = .ok (.iconst 1, 1) := by decide +kernel
theorem dX4_parity_13 : decode cX4_parity 13 = .ok (.iand, 1) := by decide +kernel
theorem dX4_parity_14 : decode cX4_parity 14 = .ok (.iconst 1, 1) := by decide +kernel
theorem dX4_parity_15 : decode cX4_parity 15 = .ok (.if_icmp .ne 7, 3) := by decide +kernel
theorem dX4_parity_18 : decode cX4_parity 18 = .ok (.iconst 1, 1) := by decide +kernel
theorem dX4_parity_19 : decode cX4_parity 19 = .ok (.goto 4, 3) := by decide +kernel
theorem dX4_parity_22 : decode cX4_parity 22 = .ok (.iconst 0, 1) := by decide +kernel
theorem dX4_parity_23 : decode cX4_parity 23 = .ok (.invokevirtual 136, 3) := by decide +kernel
theorem dX4_parity_26 : decode cX4_parity 26 = .ok (.return_, 1) := by decide +kernel
theorem dX4_add_0 : decode cX4_add 0 = .ok (.iload_n 3, 1) := by decide +kernel
theorem dX4_add_1 : decode cX4_add 1 = .ok (.ifCond .eq 9, 3) := by decide +kernel
theorem dX4_add_4 : decode cX4_add 4 = .ok (.sipush 255, 3) := by decide +kernel
theorem dX4_add_7 : decode cX4_add 7 = .ok (.goto 5, 3) := by decide +kernel
theorem dX4_add_10 : decode cX4_add 10 = .ok (.ldc 127, 2) := by decide +kernel
theorem dX4_add_12 : decode cX4_add 12 = .ok (.istore 4, 2) := by decide +kernel
theorem dX4_add_14 : decode cX4_add 14 = .ok (.iload_n 3, 1) := by decide +kernel
theorem dX4_add_15 : decode cX4_add 15 = .ok (.ifCond .eq 9, 3) := by decide +kernel
theorem dX4_add_18 : decode cX4_add 18 = .ok (.sipush 128, 3) := by decide +kernel
theorem dX4_add_21 : decode cX4_add 21 = .ok (.goto 5, 3) := by decide +kernel
theorem dX4_add_24 : decode cX4_add 24 = .ok (.ldc 135, 2) := by decide +kernel
theorem dX4_add_26 : decode cX4_add 26 = .ok (.istore 5, 2) := by decide +kernel
theorem dX4_add_28 : decode cX4_add 28 = .ok (.iload_n 1, 1) := by decide +kernel
theorem dX4_add_29 : decode cX4_add 29 = .ok (.iload_n 2, 1) := by decide +kernel
theorem dX4_add_30 : decode cX4_add 30 = .ok (.iadd, 1) := by decide +kernel
theorem dX4_add_31 : decode cX4_add 31 = .ok (.istore 6, 2) := by decide +kernel
theorem dX4_add_33 : decode cX4_add 33 = .ok (.iload 6, 2) := by decide +kernel
theorem dX4_add_35 : decode cX4_add 35 = .ok (.iload 4, 2) := by decide +kernel
theorem dX4_add_37 : decode cX4_add 37 = .ok (.iand, 1) := by decide +kernel
theorem dX4_add_38 : decode cX4_add 38 = .ok (.istore 7, 2) := by decide +kernel
theorem dX4_add_40 : decode cX4_add 40 = .ok (.aload_n 0, 1) := by decide +kernel
theorem dX4_add_41 : decode cX4_add 41 = .ok (.iload 7, 2) := by decide +kernel
theorem dX4_add_43 : decode cX4_add 43 = .ok (.iconst 0, 1) := by decide +kernel
theorem dX4_add_44 : decode cX4_add 44 = .ok (.iload_n 3, 1) := by decide +kernel
theorem dX4_add_45 : decode cX4_add 45 = .ok (.invokevirtual 145, 3) := by decide +kernel
theorem dX4_add_48 : decode cX4_add 48 = .ok (.aload_n 0, 1) := by decide +kernel
theorem dX4_add_49 : decode cX4_add 49 = .ok (.sipush 4096, 3) := by decide +kernel
theorem dX4_add_52 : decode cX4_add 52 = .ok (.iload 6, 2) := by decide +kernel
theorem dX4_add_54 : decode cX4_add 54 = .ok (.iload 4, 2) := by decide +kernel
theorem dX4_add_56 : decode cX4_add 56 = .ok (.if_icmp .le 7, 3) := by decide +kernel
theorem dX4_add_59 : decode cX4_add 59 = .ok (.iconst 1, 1) := by decide +kernel
theorem dX4_add_60 : decode cX4_add 60 = .ok (.goto 4, 3) := by decide +kernel
theorem dX4_add_63 : decode cX4_add 63 = .ok (.iconst 0, 1) := by decide +kernel
theorem dX4_add_64 : decode cX4_add 64 = .ok (.invokevirtual 136, 3) := by decide +kernel
theorem dX4_add_67 : decode cX4_add 67 = .ok (.aload_n 0, 1) := by decide +kernel
theorem dX4_add_68 : decode cX4_add 68 = .ok (.sipush 2048, 3) := by decide +kernel
theorem dX4_add_71 : decode cX4_add 71 = .ok (.iload_n 1, 1) := by decide +kernel
theorem dX4_add_72 : decode cX4_add 72 = .ok (.iload 7, 2) := by decide +kernel
theorem dX4_add_74 : decode cX4_add 74 = .ok (.ixor, 1) := by decide +kernel
theorem dX4_add_75 : decode cX4_add 75 = .ok (.iload_n 2, 1) := by decide +kernel
theorem dX4_add_76 : decode cX4_add 76 = .ok (.iload 7, 2) := by decide +kernel
theorem dX4_add_78 : decode cX4_add 78 = .ok (.ixor, 1) := by decide +kernel
theorem dX4_add_79 : decode cX4_add 79 = .ok (.iand, 1) := by decide +kernel
theorem dX4_add_80 : decode cX4_add 80 = .ok (.iload 5, 2) := by decide +kernel
theorem dX4_add_82 : decode cX4_add 82 = .ok (.iand, 1) := by decide +kernel
theorem dX4_add_83 : decode cX4_add 83 = .ok (.ifCond .eq 7, 3) := by decide +kernel
theorem dX4_add_86 : decode cX4_add 86 = .ok (.iconst 1, 1) := by decide +kernel
theorem dX4_add_87 : decode cX4_add 87 = .ok (.goto 4, 3) := by decide +kernel
theorem dX4_add_90 : decode cX4_add 90 = .ok (.iconst 0, 1) := by decide +kernel
theorem dX4_add_91 : decode cX4_add 91 = .ok (.invokevirtual 136, 3) := by decide +kernel
theorem dX4_add_94 : decode cX4_add 94 = .ok (.iload 7, 2) := by decide +kernel
theorem dX4_add_96 : decode cX4_add 96 = .ok (.ireturn, 1) := by decide +kernel
theorem dX4_subtract_0 : decode cX4_subtract 0 = .ok (.iload_n 3, 1) := by decide +kernel
theorem dX4_subtract_1 : decode cX4_subtract 1 = .ok (.ifCond .eq 9, 3) := by decide +kernel
theorem dX4_subtract_4 : decode cX4_subtract 4 = .ok (.sipush 255, 3) := by decide +kernel
theorem dX4_subtract_7 : decode cX4_subtract 7 = .ok (.goto 5, 3) := by decide +kernel
theorem dX4_subtract_10 : decode cX4_subtract 10 = .ok (.ldc 127, 2) := by decide +kernel
theorem dX4_subtract_12 : decode cX4_subtract 12 = .ok (.istore 4, 2) := by decide +kernel
theorem dX4_subtract_14 : decode cX4_subtract 14 = .ok (.iload_n 3, 1) := by decide +kernel
theorem dX4_subtract_15 : decode cX4_subtract 15 = .ok (.ifCond .eq 9, 3) := by decide +kernel
theorem dX4_subtract_18 : decode cX4_subtract 18 = .ok (.sipush 128, 3) := by decide +kernel
theorem dX4_subtract_21 : decode cX4_subtract 21 = .ok (.goto 5, 3) := by decide +kernel
theorem dX4_subtract_24 : decode cX4_subtract 24 = .ok (.ldc 135, 2) := by decide +kernel
theorem dX4_subtract_26 : decode cX4_subtract 26 = .ok (.istore 5, 2) := by decide +kernel
theorem dX4_subtract_28 : decode cX4_subtract 28 = .ok (.iload_n 1, 1) := by decide +kernel
theorem dX4_subtract_29 : decode cX4_subtract 29 = .ok (.iload_n 2, 1) := by decide +kernel
theorem dX4_subtract_30 : decode cX4_subtract 30 = .ok (.isub, 1) := by decide +kernel
theorem dX4_subtract_31 : decode cX4_subtract 31 = .ok (.iload 4, 2) := by decide +kernel
theorem dX4_subtract_33 : decode cX4_subtract 33 = .ok (.iand, 1) := by decide +kernel
theorem dX4_subtract_34 : decode cX4_subtract 34 = .ok (.istore 6, 2) := by decide +kernel
theorem dX4_subtract_36 : decode cX4_subtract 36 = .ok (.aload_n 0, 1) := by decide +kernel
theorem dX4_subtract_37 : decode cX4_subtract 37 = .ok (.iload 6, 2) := by decide +kernel
theorem dX4_subtract_39 : decode cX4_subtract 39 = .ok (.iconst 0, 1) := by decide +kernel
theorem dX4_subtract_40 : decode cX4_subtract 40 = .ok (.iload_n 3, 1) := by decide +kernel
theorem dX4_subtract_41 : decode cX4_subtract 41 = .ok (.invokevirtual 145, 3) := by decide +kernel
theorem dX4_subtract_44 : decode cX4_subtract 44 = .ok (.aload_n 0, 1) := by decide +kernel
theorem dX4_subtract_45 : decode cX4_subtract 45 = .ok (.sipush 4096, 3) := by decide +kernel
theorem dX4_subtract_48 : decode cX4_subtract 48 = .ok (.iload_n 2, 1) := by decide +kernel
theorem dX4_subtract_49 : decode cX4_subtract 49 = .ok (.iload_n 1, 1) := by decide +kernel
theorem dX4_subtract_50 : decode cX4_subtract 50 = .ok (.if_icmp .gt 7, 3) := by decide +kernel
theorem dX4_subtract_53 : decode cX4_subtract 53 = .ok (.iconst 1, 1) := by decide +kernel
theorem dX4_subtract_54 : decode cX4_subtract 54 = .ok (.goto 4, 3) := by decide +kernel
theorem dX4_subtract_57 : decode cX4_subtract 57 = .ok (.iconst 0, 1) := by decide +kernel
theorem dX4_subtract_58 : decode cX4_subtract 58 = .ok (.invokevirtual 136, 3) := by decide +kernel
theorem dX4_subtract_61 : decode cX4_subtract 61 = .ok (.aload_n 0, 1) := by decide +kernel
theorem dX4_subtract_62 : decode cX4_subtract 62 = .ok (.sipush 2048, 3) := by decide +kernel
theorem dX4_subtract_65 : decode cX4_subtract 65 = .ok (.iload_n 1, 1) := by decide +kernel
theorem dX4_subtract_66 : decode cX4_subtract 66 = .ok (.iload_n 2, 1) := by decide +kernel
theorem dX4_subtract_67 : decode cX4_subtract 67 = .ok (.ixor, 1) := by decide +kernel
theorem dX4_subtract_68 : decode cX4_subtract 68 = .ok (.iload_n 1, 1) := by decide +kernel
theorem dX4_subtract_69 : decode cX4_subtract 69 = .ok (.iload 6, 2) := by decide +kernel
theorem dX4_subtract_71 : decode cX4_subtract 71 = .ok (.ixor, 1) := by decide +kernel
theorem dX4_subtract_72 : decode cX4_subtract 72 = .ok (.iand, 1) := by decide +kernel
theorem dX4_subtract_73 : decode cX4_subtract 73 = .ok (.iload 5, 2) := by decide +kernel
theorem dX4_subtract_75 : decode cX4_subtract 75 = .ok (.iand, 1) := by decide +kernel
theorem dX4_subtract_76 : decode cX4_subtract 76 = .ok (.ifCond .eq 7, 3) := by decide +kernel
theorem dX4_subtract_79 : decode cX4_subtract 79 = .ok (.iconst 1, 1) := by decide +kernel
theorem dX4_subtract_80 : decode cX4_subtract 80 = .ok (.goto 4, 3) := by decide +kernel
theorem dX4_subtract_83 : decode cX4_subtract 83 = .ok (.iconst 0, 1) := by decide +kernel
theorem dX4_subtract_84 : decode cX4_subtract 84 = .ok (.invokevirtual 136, 3) := by decide +kernel
theorem dX4_subtract_87 : decode cX4_subtract 87 = .ok (.iload 6, 2) := by decide +kernel
theorem dX4_subtract_89 : decode cX4_subtract 89 = .ok (.ireturn, 1) := by decide +kernel
theorem dX4_doImmediate_0 : decode cX4_doImmediate 0 = .ok (.iload_n 1, 1) := by decide +kernel
theorem dX4_doImmediate_1 : decode cX4_doImmediate 1 = .ok (.ldc 149, 2) := by decide +kernel
theorem dX4_doImmediate_3 : decode cX4_doImmediate 3 = .ok (.iand, 1) := by decide +kernel
theorem dX4_doImmediate_4 : decode cX4_doImmediate 4 = .ok (.istore_n 2, 1) := by decide +kernel
theorem dX4_doImmediate_5 : decode cX4_doImmediate 5 = .ok (.aload_n 0, 1) := by decide +kernel
theorem dX4_doImmediate_6 : decode cX4_doImmediate 6 = .ok (.iload_n 1, 1) := by decide +kernel
theorem dX4_doImmediate_7 : decode cX4_doImmediate 7 = .ok (.bipush 15, 2) := by decide +kernel
theorem dX4_doImmediate_9 : decode cX4_doImmediate 9 = .ok (.iand, 1) := by decide +kernel
theorem dX4_doImmediate_10 : decode cX4_doImmediate 10 = .ok (.invokevirtual 128, 3) := by decide +kernel
