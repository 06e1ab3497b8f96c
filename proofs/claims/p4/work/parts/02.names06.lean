theorem dX4_doLongArithmetic_10 : decode cX4_doLongArithmetic 10 = .ok (.invokevirtual 25, 3) := by decide +kernel
theorem dX4_doLongArithmetic_13 : decode cX4_doLongArithmetic 13 = .ok (.istore_n 2, 1) := by decide +kernel
theorem dX4_doLongArithmetic_14 : decode cX4_doLongArithmetic 14 = .ok (.aload_n 0, 1) := by decide +kernel
theorem dX4_doLongArithmetic_15 : decode cX4_doLongArithmetic 15 = .ok (.iload_n 1, 1) := by decide +kernel
theorem dX4_doLongArithmetic_16 : decode cX4_doLongArithmetic 16 = .ok (.bipush 6, 2) := by decide +kernel
theorem dX4_doLongArithmetic_18 : decode cX4_doLongArithmetic 18 = .ok (.ishr, 1) := by decide +kernel
theorem dX4_doLongArithmetic_19 : decode cX4_doLongArithmetic 19 = .ok (.bipush 15, 2) := by decide +kernel
theorem dX4_doLongArithmetic_21 : decode cX4_doLongArithmetic 21 = .ok (.iand, 1) := by decide +kernel
theorem dX4_doLongArithmetic_22 : decode cX4_doLongArithmetic 22 = .ok (.invokevirtual 128, 3) := by decide +kernel
theorem dX4_doLongArithmetic_25 : decode cX4_doLongArithmetic 25 = .ok (.istore_n 3, 1) := by decide +kernel
theorem dX4_doLongArithmetic_26 : decode cX4_doLongArithmetic 26 = .ok (.aload_n 0, 1) := by decide +kernel
theorem dX4_doLongArithmetic_27 : decode cX4_doLongArithmetic 27 = .ok (.getfield 13, 3) := by decide +kernel
theorem dX4_doLongArithmetic_30 : decode cX4_doLongArithmetic 30 = .ok (.iload_n 3, 1) := by decide +kernel
theorem dX4_doLongArithmetic_31 : decode cX4_doLongArithmetic 31 = .ok (.invokevirtual 25, 3) := by decide +kernel
theorem dX4_doLongArithmetic_34 : decode cX4_doLongArithmetic 34 = .ok (.istore 4, 2) := by decide +kernel
theorem dX4_doLongArithmetic_36 : decode cX4_doLongArithmetic 36 = .ok (.iload_n 1, 1) := by decide +kernel
theorem dX4_doLongArithmetic_37 : decode cX4_doLongArithmetic 37 = .ok (.ldc 206, 2) := by decide +kernel
theorem dX4_doLongArithmetic_39 : decode cX4_doLongArithmetic 39 = .ok (.iand, 1) := by decide +kernel
theorem dX4_doLongArithmetic_40 : decode cX4_doLongArithmetic 40 = .ok (.sipush 14336, 3) := by decide +kernel
theorem dX4_doLongArithmetic_43 : decode cX4_doLongArithmetic 43 = .ok (.if_icmp .ne 40, 3) := by decide +kernel
theorem dX4_doLongArithmetic_46 : decode cX4_doLongArithmetic 46 = .ok (.iload_n 2, 1) := by decide +kernel
theorem dX4_doLongArithmetic_47 : decode cX4_doLongArithmetic 47 = .ok (.iload 4, 2) := by decide +kernel
theorem dX4_doLongArithmetic_49 : decode cX4_doLongArithmetic 49 = .ok (.imul, 1) := by decide +kernel
theorem dX4_doLongArithmetic_50 : decode cX4_doLongArithmetic 50 = .ok (.istore 5, 2) := by decide +kernel
theorem dX4_doLongArithmetic_52 : decode cX4_doLongArithmetic 52 = .ok (.aload_n 0, 1) := by decide +kernel
theorem dX4_doLongArithmetic_53 : decode cX4_doLongArithmetic 53 = .ok (.getfield 13, 3) := by decide +kernel
theorem dX4_doLongArithmetic_56 : decode cX4_doLongArithmetic 56 = .ok (.iload_n 3, 1) := by decide +kernel
theorem dX4_doLongArithmetic_57 : decode cX4_doLongArithmetic 57 = .ok (.iload 5, 2) := by decide +kernel
theorem dX4_doLongArithmetic_59 : decode cX4_doLongArithmetic 59 = .ok (.bipush 16, 2) := by decide +kernel
theorem dX4_doLongArithmetic_61 : decode cX4_doLongArithmetic 61 = .ok (.iushr, 1) := by decide +kernel
theorem dX4_doLongArithmetic_62 : decode cX4_doLongArithmetic 62 = .ok (.invokevirtual 131, 3) := by decide +kernel
theorem dX4_doLongArithmetic_65 : decode cX4_doLongArithmetic 65 = .ok (.aload_n 0, 1) := by decide +kernel
theorem dX4_doLongArithmetic_66 : decode cX4_doLongArithmetic 66 = .ok (.getfield 13, 3) := by decide +kernel
theorem dX4_doLongArithmetic_69 : decode cX4_doLongArithmetic 69 = .ok (.iload_n 3, 1) := by decide +kernel
theorem dX4_doLongArithmetic_70 : decode cX4_doLongArithmetic 70 = .ok (.iconst 2, 1) := by decide +kernel
theorem dX4_doLongArithmetic_71 : decode cX4_doLongArithmetic 71 = .ok (.iadd, 1) := by decide +kernel
theorem dX4_doLongArithmetic_72 : decode cX4_doLongArithmetic 72 = .ok (.iload 5, 2) := by decide +kernel
theorem dX4_doLongArithmetic_74 : decode cX4_doLongArithmetic 74 = .ok (.ldc 127, 2) := by decide +kernel
theorem dX4_doLongArithmetic_76 : decode cX4_doLongArithmetic 76 = .ok (.iand, 1) := by decide +kernel
theorem dX4_doLongArithmetic_77 : decode cX4_doLongArithmetic 77 = .ok (.invokevirtual 131, 3) := by decide +kernel
theorem dX4_doLongArithmetic_80 : decode cX4_doLongArithmetic 80 = .ok (.goto 11, 3) := by decide +kernel
theorem dX4_doLongArithmetic_83 : decode cX4_doLongArithmetic 83 = .ok (.aload_n 0, 1) := by decide +kernel
theorem dX4_doLongArithmetic_84 : decode cX4_doLongArithmetic 84 = .ok (.iload_n 3, 1) := by decide +kernel
theorem dX4_doLongArithmetic_85 : decode cX4_doLongArithmetic 85 = .ok (.iload 4, 2) := by decide +kernel
theorem dX4_doLongArithmetic_87 : decode cX4_doLongArithmetic 87 = .ok (.iload_n 2, 1) := by decide +kernel
theorem dX4_doLongArithmetic_88 : decode cX4_doLongArithmetic 88 = .ok (.invokevirtual 207, 3) := by decide +kernel
theorem dX4_doLongArithmetic_91 : decode cX4_doLongArithmetic 91 = .ok (.return_, 1) := by decide +kernel
theorem dX4_divide_0 : decode cX4_divide 0 = .ok (.aload_n 0, 1) := by decide +kernel
theorem dX4_divide_1 : decode cX4_divide 1 = .ok (.sipush 2048, 3) := by decide +kernel
theorem dX4_divide_4 : decode cX4_divide 4 = .ok (.iload_n 3, 1) := by decide +kernel
theorem dX4_divide_5 : decode cX4_divide 5 = .ok (.iload_n 2, 1) := by decide +kernel
theorem dX4_divide_6 : decode cX4_divide 6 = .ok (.if_icmp .gt 7, 3) := by decide +kernel
theorem dX4_divide_9 : decode cX4_divide 9 = .ok (.iconst 1, 1) := by decide +kernel
theorem dX4_divide_10 : decode cX4_divide 10 = .ok (.goto 4, 3) := by decide +kernel
theorem dX4_divide_13 : decode cX4_divide 13 = .ok (.iconst 0, 1) := by decide +kernel
theorem dX4_divide_14 : decode cX4_divide 14 = .ok (.invokevirtual 136, 3) := by decide +kernel
theorem dX4_divide_17 : decode cX4_divide 17 = .ok (.iload_n 3, 1) := by decide +kernel
theorem dX4_divide_18 : decode cX4_divide 18 = .ok (.iload_n 2, 1) := by decide +kernel
theorem dX4_divide_19 : decode cX4_divide 19 = .ok (.if_icmp .le 7, 3) := by decide +kernel
theorem dX4_divide_22 : decode cX4_divide 22 = .ok (.iload_n 3, 1) := by decide +kernel
theorem dX4_divide_23 : decode cX4_divide 23 = .ok (.ifCond .ne 4, 3) := by decide +kernel
theorem dX4_divide_26 : decode cX4_divide 26 = .ok (.return_, 1) := by decide +kernel
theorem dX4_divide_27 : decode cX4_divide 27 = .ok (.iload_n 2, 1) := by decide +kernel
theorem dX4_divide_28 : decode cX4_divide 28 = .ok (.i2l, 1) := by decide +kernel
theorem dX4_divide_29 : decode cX4_divide 29 = .ok (.bipush 16, 2) := by decide +kernel
theorem dX4_divide_31 : decode cX4_divide 31 = .ok (.lshl, 1) := by decide +kernel
theorem dX4_divide_32 : decode cX4_divide 32 = .ok (.aload_n 0, 1) := by decide +kernel
theorem dX4_divide_33 : decode cX4_divide 33 = .ok (.getfield 13, 3) := by decide +kernel
theorem dX4_divide_36 : decode cX4_divide 36 = .ok (.iload_n 1, 1) := by decide +kernel
theorem dX4_divide_37 : decode cX4_divide 37 = .ok (.iconst 2, 1) := by decide +kernel
theorem dX4_divide_38 : decode cX4_divide 38 = .ok (.iadd, 1) := by decide +kernel
theorem dX4_divide_39 : decode cX4_divide 39 = .ok (.invokevirtual 25, 3) := by decide +kernel
theorem dX4_divide_42 : decode cX4_divide 42 = .ok (.i2l, 1) := by decide +kernel
theorem dX4_divide_43 : decode cX4_divide 43 = .ok (.lor, 1) := by decide +kernel
theorem dX4_divide_44 : decode cX4_divide 44 = .ok (.lstore 4, 2) := by decide +kernel
theorem dX4_divide_46 : decode cX4_divide 46 = .ok (.aload_n 0, 1) := by decide +kernel
theorem dX4_divide_47 : decode cX4_divide 47 = .ok (.getfield 13, 3) := by decide +kernel
theorem dX4_divide_50 : decode cX4_divide 50 = .ok (.iload_n 1, 1) := by decide +kernel
theorem dX4_divide_51 : decode cX4_divide 51 = .ok (.lload 4, 2) := by decide +kernel
theorem dX4_divide_53 : decode cX4_divide 53 = .ok (.iload_n 3, 1) := by decide +kernel
theorem dX4_divide_54 : decode cX4_divide 54 = .ok (.i2l, 1) := by decide +kernel
theorem dX4_divide_55 : decode cX4_divide 55 = .ok (.ldiv, 1) := by decide +kernel
theorem dX4_divide_56 : decode cX4_divide 56 = .ok (.l2i, 1) := by decide +kernel
theorem dX4_divide_57 : decode cX4_divide 57 = .ok (.invokevirtual 131, 3) := by decide +kernel
theorem dX4_divide_60 : decode cX4_divide 60 = .ok (.aload_n 0, 1) := by decide +kernel
theorem dX4_divide_61 : decode cX4_divide 61 = .ok (.getfield 13, 3) := by decide +kernel
theorem dX4_divide_64 : decode cX4_divide 64 = .ok (.iload_n 1, 1) := by decide +kernel
theorem dX4_divide_65 : decode cX4_divide 65 = .ok (.iconst 2, 1) := by decide +kernel
theorem dX4_divide_66 : decode cX4_divide 66 = .ok (.iadd, 1) := by decide +kernel
theorem dX4_divide_67 : decode cX4_divide 67 = .ok (.lload 4, 2) := by decide +kernel
theorem dX4_divide_69 : decode cX4_divide 69 = .ok (.iload_n 3, 1) := by decide +kernel
theorem dX4_divide_70 : decode cX4_divide 70 = .ok (.i2l, 1) := by decide +kernel
theorem dX4_divide_71 : decode cX4_divide 71 = .ok (.lrem, 1) := by decide +kernel
theorem dX4_divide_72 : decode cX4_divide 72 = .ok (.l2i, 1) := by decide +kernel
theorem dX4_divide_73 : decode cX4_divide 73 = .ok (.invokevirtual 131, 3) := by decide +kernel
theorem dX4_divide_76 : decode cX4_divide 76 = .ok (.return_, 1) := by decide +kernel
theorem dX4_doTwoOperands_0 : decode cX4_doTwoOperands 0 = .ok (.iload_n 1, 1) := by decide +kernel
theorem dX4_doTwoOperands_1 : decode cX4_doTwoOperands 1 = .ok (.sipush 4096, 3) := by decide +kernel
theorem dX4_doTwoOperands_4 : decode cX4_doTwoOperands 4 = .ok (.iand, 1) := by decide +kernel
theorem dX4_doTwoOperands_5 : decode cX4_doTwoOperands 5 = .ok (.ifCond .eq 7, 3) := by decide +kernel
theorem dX4_doTwoOperands_8 : decode cX4_doTwoOperands 8 = .ok (.iconst 1, 1) := by decide +kernel
theorem dX4_doTwoOperands_9 : decode cX4_doTwoOperands 9 = .ok (.goto 4, 3) := by decide +kernel
theorem dX4_doTwoOperands_12 : decode cX4_doTwoOperands 12 = .ok (.iconst 0, 1) := by decide +kernel
theorem dX4_doTwoOperands_13 : decode cX4_doTwoOperands 13 = .ok (.istore_n 2, 1) := by decide +kernel
theorem dX4_doTwoOperands_14 : decode cX4_doTwoOperands 14 = .ok (.aload_n 0, 1) := by decide +kernel
theorem dX4_doTwoOperands_15 : decode cX4_doTwoOperands 15 = .ok (.iload_n 1, 1) := by decide +kernel
theorem dX4_doTwoOperands_16 : decode cX4_doTwoOperands 16 = .ok (.iload_n 2, 1) := by decide +kernel
theorem dX4_doTwoOperands_17 : decode cX4_doTwoOperands 17 = .ok (.invokevirtual 89, 3) := by decide +kernel
theorem dX4_doTwoOperands_20 : decode cX4_doTwoOperands 20 = .ok (.istore_n 3, 1) := by decide +kernel
theorem dX4_doTwoOperands_21 : decode cX4_doTwoOperands 21 = .ok (.iload_n 2, 1) := by decide +kernel
theorem dX4_doTwoOperands_22 : decode cX4_doTwoOperands 22 = .ok (.ifCond .eq 14, 3) := by decide +kernel
theorem dX4_doTwoOperands_25 : decode cX4_doTwoOperands 25 = .ok (.aload_n 0, 1) := by decide +kernel
theorem dX4_doTwoOperands_26 : decode cX4_doTwoOperands 26 = .ok (.getfield 13, 3) := by decide +kernel
theorem dX4_doTwoOperands_29 : decode cX4_doTwoOperands 29 = .ok (.iload_n 3, 1) := by decide +kernel
theorem dX4_doTwoOperands_30 : decode cX4_doTwoOperands 30 = .ok (.invokevirtual 187, 3) := by decide +kernel
theorem dX4_doTwoOperands_33 : decode cX4_doTwoOperands 33 = .ok (.goto 11, 3) := by decide +kernel
theorem dX4_doTwoOperands_36 : decode cX4_doTwoOperands 36 = .ok (.aload_n 0, 1) := by decide +kernel
theorem dX4_doTwoOperands_37 : decode cX4_doTwoOperands 37 = .ok (.getfield 13, 3) := by decide +kernel
theorem dX4_doTwoOperands_40 : decode cX4_doTwoOperands 40 = .ok (.iload_n 3, 1) := by decide +kernel
theorem dX4_doTwoOperands_41 : decode cX4_doTwoOperands 41 = .ok (.invokevirtual 25, 3) := by decide +kernel
theorem dX4_doTwoOperands_44 : decode cX4_doTwoOperands 44 = .ok (.istore 4, 2) := by decide +kernel
theorem dX4_doTwoOperands_46 : decode cX4_doTwoOperands 46 = .ok (.aload_n 0, 1) := by decide +kernel
theorem dX4_doTwoOperands_47 : decode cX4_doTwoOperands 47 = .ok (.iload_n 1, 1) := by decide +kernel
theorem dX4_doTwoOperands_48 : decode cX4_doTwoOperands 48 = .ok (.bipush 6, 2) := by decide +kernel
theorem dX4_doTwoOperands_50 : decode cX4_doTwoOperands 50 = .ok (.ishr, 1) := by decide +kernel
theorem dX4_doTwoOperands_51 : decode cX4_doTwoOperands 51 = .ok (.iload_n 2, 1) := by decide +kernel
theorem dX4_doTwoOperands_52 : decode cX4_doTwoOperands 52 = .ok (.invokevirtual 89, 3) := by decide +kernel
theorem dX4_doTwoOperands_55 : decode cX4_doTwoOperands 55 = .ok (.istore 5, 2) := by decide +kernel
theorem dX4_doTwoOperands_57 : decode cX4_doTwoOperands 57 = .ok (.iload_n 2, 1) := by decide +kernel
theorem dX4_doTwoOperands_58 : decode cX4_doTwoOperands 58 = .ok (.ifCond .eq 15, 3) := by decide +kernel
theorem dX4_doTwoOperands_61 : decode cX4_doTwoOperands 61 = .ok (.aload_n 0, 1) := by decide +kernel
theorem dX4_doTwoOperands_62 : decode cX4_doTwoOperands 62 = .ok (.getfield 13, 3) := by decide +kernel
theorem dX4_doTwoOperands_65 : decode cX4_doTwoOperands 65 = .ok (.iload 5, 2) := by decide +kernel
theorem dX4_doTwoOperands_67 : decode cX4_doTwoOperands 67 = .ok (.invokevirtual 187, 3) := by decide +kernel
theorem dX4_doTwoOperands_70 : decode cX4_doTwoOperands 70 = .ok (.goto 12, 3) := by decide +kernel
theorem dX4_doTwoOperands_73 : decode cX4_doTwoOperands 73 = .ok (.aload_n 0, 1) := by decide +kernel
theorem dX4_doTwoOperands_74 : decode cX4_doTwoOperands 74 = .ok (.getfield 13, 3) := by decide +kernel
theorem dX4_doTwoOperands_77 : decode cX4_doTwoOperands 77 = .ok (.iload 5, 2) := by decide +kernel
theorem dX4_doTwoOperands_79 : decode cX4_doTwoOperands 79 = .ok (.invokevirtual 25, 3) := by decide +kernel
theorem dX4_doTwoOperands_82 : decode cX4_doTwoOperands 82 = .ok (.istore 6, 2) := by decide +kernel
theorem dX4_doTwoOperands_84 : decode cX4_doTwoOperands 84 = .ok (.iload_n 1, 1) := by decide +kernel
theorem dX4_doTwoOperands_85 : decode cX4_doTwoOperands 85 = .ok (.ldc 210, 2) := by decide +kernel
theorem dX4_doTwoOperands_87 : decode cX4_doTwoOperands 87 = .ok (.iand, 1) := by decide +kernel
theorem dX4_doTwoOperands_88 : decode cX4_doTwoOperands 88 = .ok (.istore 7, 2) := by decide +kernel
theorem dX4_doTwoOperands_90 : decode cX4_doTwoOperands 90 = .ok (.iload 7, 2) := by decide +kernel
theorem dX4_doTwoOperands_92 : decode cX4_doTwoOperands 92 = .ok (.ldc 135, 2) := by decide +kernel
theorem dX4_doTwoOperands_94 : decode cX4_doTwoOperands 94 = .ok (.if_icmp .ne 23, 3) := by decide +kernel
theorem dX4_doTwoOperands_97 : decode cX4_doTwoOperands 97 = .ok (.aload_n 0, 1) := by decide +kernel
theorem dX4_doTwoOperands_98 : decode cX4_doTwoOperands 98 = .ok (.iload 4, 2) := by decide +kernel
theorem dX4_doTwoOperands_100 : decode cX4_doTwoOperands 100 = .ok (.iload 6, 2) := by decide +kernel
theorem dX4_doTwoOperands_102 : decode cX4_doTwoOperands 102 = .ok (.iload_n 2, 1) := by decide +kernel
theorem dX4_doTwoOperands_103 : decode cX4_doTwoOperands 103 = .ok (.invokevirtual 145, 3) := by decide +kernel
theorem dX4_doTwoOperands_106 : decode cX4_doTwoOperands 106 = .ok (.iload_n 2, 1) := by decide +kernel
theorem dX4_doTwoOperands_107 : decode cX4_doTwoOperands 107 = .ok (.ifCond .eq 9, 3) := by decide +kernel
theorem dX4_doTwoOperands_110 : decode cX4_doTwoOperands 110 = .ok (.aload_n 0, 1) := by decide +kernel
theorem dX4_doTwoOperands_111 : decode cX4_doTwoOperands 111 = .ok (.iload 4, 2) := by decide +kernel
theorem dX4_doTwoOperands_113 : decode cX4_doTwoOperands 113 = .ok (.invokevirtual 197, 3) := by decide +kernel
theorem dX4_doTwoOperands_116 : decode cX4_doTwoOperands 116 = .ok (.return_, 1) := by decide +kernel
theorem dX4_doTwoOperands_117 : decode cX4_doTwoOperands 117 = .ok (.aload_n 0, 1) := by decide +kernel
theorem dX4_doTwoOperands_118 : decode cX4_doTwoOperands 118 = .ok (.iload 7, 2) := by decide +kernel
theorem dX4_doTwoOperands_120 : decode cX4_doTwoOperands 120 = .ok (.iload 4, 2) := by decide +kernel
theorem dX4_doTwoOperands_122 : decode cX4_doTwoOperands 122 = .ok (.iload 6, 2) := by decide +kernel
theorem dX4_doTwoOperands_124 : decode cX4_doTwoOperands 124 = .ok (.iload_n 2, 1) := by decide +kernel
theorem dX4_doTwoOperands_125 : decode cX4_doTwoOperands 125 = .ok (.invokevirtual 211, 3) := by decide +kernel
theorem dX4_doTwoOperands_128 : decode cX4_doTwoOperands 128 = .ok (.istore 8, 2) := by decide +kernel
theorem dX4_doTwoOperands_130 : decode cX4_doTwoOperands 130 = .ok (.iload_n 2, 1) := by decide +kernel
theorem dX4_doTwoOperands_131 : decode cX4_doTwoOperands 131 = .ok (.ifCond .eq 9, 3) := by decide +kernel
theorem dX4_doTwoOperands_134 : decode cX4_doTwoOperands 134 = .ok (.aload_n 0, 1) := by decide +kernel
theorem dX4_doTwoOperands_135 : decode cX4_doTwoOperands 135 = .ok (.iload 8, 2) := by decide +kernel
theorem dX4_doTwoOperands_137 : decode cX4_doTwoOperands 137 = .ok (.invokevirtual 197, 3) := by decide +kernel
theorem dX4_doTwoOperands_140 : decode cX4_doTwoOperands 140 = .ok (.aload_n 0, 1) := by decide +kernel
theorem dX4_doTwoOperands_141 : decode cX4_doTwoOperands 141 = .ok (.iload 5, 2) := by decide +kernel
theorem dX4_doTwoOperands_143 : decode cX4_doTwoOperands 143 = .ok (.iload 8, 2) := by decide +kernel
theorem dX4_doTwoOperands_145 : decode cX4_doTwoOperands 145 = .ok (.iload_n 2, 1) := by decide +kernel
theorem dX4_doTwoOperands_146 : decode cX4_doTwoOperands 146 = .ok (.invokevirtual 200, 3) := by decide +kernel
theorem dX4_doTwoOperands_149 : decode cX4_doTwoOperands 149 = .ok (.return_, 1) := by decide +kernel
theorem dX4_combined_0 : decode cX4_combined 0 = .ok (.iload_n 1, 1) := by decide +kernel
theorem dX4_combined_1 : decode cX4_combined 1 = .ok (.lookupswitch 77 #[(16384, 61), (24576, 52), (40960, 43), (49152, 71)], 43) := by decide +kernel
theorem dX4_combined_44 : decode cX4_combined 44 = .ok (.aload_n 0, 1) := by decide +kernel
theorem dX4_combined_45 : decode cX4_combined 45 = .ok (.iload_n 3, 1) := by decide +kernel
theorem dX4_combined_46 : decode cX4_combined 46 = .ok (.iload_n 2, 1) := by decide +kernel
theorem dX4_combined_47 : decode cX4_combined 47 = .ok (.iload 4, 2) := by decide +kernel
theorem dX4_combined_49 : decode cX4_combined 49 = .ok (.invokevirtual 150, 3) := by decide +kernel
theorem dX4_combined_52 : decode cX4_combined 52 = .ok (.ireturn, 1) := by decide +kernel
theorem dX4_combined_53 : decode cX4_combined 53 = .ok (.aload_n 0, 1) := by decide +kernel
theorem dX4_combined_54 : decode cX4_combined 54 = .ok (.iload_n 3, 1) := by decide +kernel
theorem dX4_combined_55 : decode cX4_combined 55 = .ok (.iload_n 2, 1) := by decide +kernel
theorem dX4_combined_56 : decode cX4_combined 56 = .ok (.iload 4, 2) := by decide +kernel
theorem dX4_combined_58 : decode cX4_combined 58 = .ok (.invokevirtual 162, 3) := by decide +kernel
theorem dX4_combined_61 : decode cX4_combined 61 = .ok (.ireturn, 1) := by decide +kernel
theorem dX4_combined_62 : decode cX4_combined 62 = .ok (.iload_n 3, 1) := by decide +kernel
theorem dX4_combined_63 : decode cX4_combined 63 = .ok (.iload_n 2, 1) := by decide +kernel
theorem dX4_combined_64 : decode cX4_combined 64 = .ok (.iconst (-1), 1) := by decide +kernel
theorem dX4_combined_65 : decode cX4_combined 65 = .ok (.ixor, 1) := by decide +kernel
theorem dX4_combined_66 : decode cX4_combined 66 = .ok (.iand, 1) := by decide +kernel
theorem dX4_combined_67 : decode cX4_combined 67 = .ok (.istore 5, 2) := by decide +kernel
theorem dX4_combined_69 : decode cX4_combined 69 = .ok (.goto 14, 3) := by decide +kernel
theorem dX4_combined_72 : decode cX4_combined 72 = .ok (.iload_n 2, 1) := by decide +kernel
theorem dX4_combined_73 : decode cX4_combined 73 = .ok (.istore 5, 2) := by decide +kernel
theorem dX4_combined_75 : decode cX4_combined 75 = .ok (.goto 8, 3) := by decide +kernel
theorem dX4_combined_78 : decode cX4_combined 78 = .ok (.iload_n 3, 1) := by decide +kernel
theorem dX4_combined_79 : decode cX4_combined 79 = .ok (.iload_n 2, 1) := by decide +kernel
theorem dX4_combined_80 : decode cX4_combined 80 = .ok (.ior, 1) := by decide +kernel
theorem dX4_combined_81 : decode cX4_combined 81 = .ok (.istore 5, 2) := by decide +kernel
theorem dX4_combined_83 : decode cX4_combined 83 = .ok (.aload_n 0, 1) := by decide +kernel
theorem dX4_combined_84 : decode cX4_combined 84 = .ok (.iload 5, 2) := by decide +kernel
theorem dX4_combined_86 : decode cX4_combined 86 = .ok (.iconst 0, 1) := by decide +kernel
theorem dX4_combined_87 : decode cX4_combined 87 = .ok (.iload 4, 2) := by decide +kernel
theorem dX4_combined_89 : decode cX4_combined 89 = .ok (.invokevirtual 145, 3) := by decide +kernel
theorem dX4_combined_92 : decode cX4_combined 92 = .ok (.iload 5, 2) := by decide +kernel
theorem dX4_combined_94 : decode cX4_combined 94 = .ok (.ireturn, 1) := by decide +kernel
theorem dX5_init_0 : decode cX5_init 0 = .ok (.aload_n 0, 1) := by decide +kernel
theorem dX5_init_1 : decode cX5_init 1 = .ok (.invokespecial 1, 3) := by decide +kernel
theorem dX5_init_4 : decode cX5_init 4 = .ok (.aload_n 0, 1) := by decide +kernel
theorem dX5_init_5 : decode cX5_init 5 = .ok (.bipush 64, 2) := by decide +kernel
theorem dX5_init_7 : decode cX5_init 7 = .ok (.newarray .long, 2) := by decide +kernel
theorem dX5_init_9 : decode cX5_init 9 = .ok (.putfield 7, 3) := by decide +kernel
theorem dX5_init_12 : decode cX5_init 12 = .ok (.aload_n 0, 1) := by decide +kernel
theorem dX5_init_13 : decode cX5_init 13 = .ok (.aload_n 1, 1) := by decide +kernel
theorem dX5_init_14 : decode cX5_init 14 = .ok (.putfield 13, 3) := by decide +kernel
theorem dX5_init_17 : decode cX5_init 17 = .ok (.return_, 1) := by decide +kernel
theorem dX5_exists_0 : decode cX5_exists 0 = .ok (.iload_n 0, 1) := by decide +kernel
theorem dX5_exists_1 : decode cX5_exists 1 = .ok (.ifCond .lt 14, 3) := by decide +kernel
theorem dX5_exists_4 : decode cX5_exists 4 = .ok (.iload_n 0, 1) := by decide +kernel
theorem dX5_exists_5 : decode cX5_exists 5 = .ok (.sipush 4095, 3) := by decide +kernel
theorem dX5_exists_8 : decode cX5_exists 8 = .ok (.if_icmp .gt 7, 3) := by decide +kernel
theorem dX5_exists_11 : decode cX5_exists 11 = .ok (.iconst 1, 1) := by decide +kernel
theorem dX5_exists_12 : decode cX5_exists 12 = .ok (.goto 4, 3) := by decide +kernel
theorem dX5_exists_15 : decode cX5_exists 15 = .ok (.iconst 0, 1) := by decide +kernel
theorem dX5_exists_16 : decode cX5_exists 16 = .ok (.ireturn, 1) := by decide +kernel
theorem dX5_sent_0 : decode cX5_sent 0 = .ok (.aload_n 0, 1) := by decide +kernel
theorem dX5_sent_1 : decode cX5_sent 1 = .ok (.getfield 7, 3) := by decide +kernel
theorem dX5_sent_4 : decode cX5_sent 4 = .ok (.iload_n 1, 1) := by decide +kernel
theorem dX5_sent_5 : decode cX5_sent 5 = .ok (.sipush 4095, 3) := by decide +kernel
theorem dX5_sent_8 : decode cX5_sent 8 = .ok (.iand, 1) := by decide +kernel
theorem dX5_sent_9 : decode cX5_sent 9 = .ok (.bipush 6, 2) := by decide +kernel
theorem dX5_sent_11 : decode cX5_sent 11 = .ok (.ishr, 1) := by decide +kernel
theorem dX5_sent_12 : decode cX5_sent 12 = .ok (.laload, 1) := by decide +kernel
theorem dX5_sent_13 : decode cX5_sent 13 = .ok (.iload_n 1, 1) := by decide +kernel
theorem dX5_sent_14 : decode cX5_sent 14 = .ok (.bipush 63, 2) := by decide +kernel
theorem dX5_sent_16 : decode cX5_sent 16 = .ok (.iand, 1) := by decide +kernel
theorem dX5_sent_17 : decode cX5_sent 17 = .ok (.lushr, 1) := by decide +kernel
theorem dX5_sent_18 : decode cX5_sent 18 = .ok (.l2i, 1) := by decide +kernel
theorem dX5_sent_19 : decode cX5_sent 19 = .ok (.iconst 1, 1) := by decide +kernel
theorem dX5_sent_20 : decode cX5_sent 20 = .ok (.iand, 1) := by decide +kernel
theorem dX5_sent_21 : decode cX5_sent 21 = .ok (.ireturn, 1) := by decide +kernel
theorem dX5_send_0 : decode cX5_send 0 = .ok (.iload_n 1, 1) := by decide +kernel
theorem dX5_send_1 : decode cX5_send 1 = .ok (.sipush 4095, 3) := by decide +kernel
theorem dX5_send_4 : decode cX5_send 4 = .ok (.iand, 1) := by decide +kernel
theorem dX5_send_5 : decode cX5_send 5 = .ok (.bipush 6, 2) := by decide +kernel
theorem dX5_send_7 : decode cX5_send 7 = .ok (.ishr, 1) := by decide +kernel
theorem dX5_send_8 : decode cX5_send 8 = .ok (.istore_n 3, 1) := by decide +kernel
theorem dX5_send_9 : decode cX5_send 9 = .ok (.lconst 1, 1) := by decide +kernel
theorem dX5_send_10 : decode cX5_send 10 = .ok (.iload_n 1, 1) := by decide +kernel
theorem dX5_send_11 : decode cX5_send 11 = .ok (.bipush 63, 2) := by decide +kernel
theorem dX5_send_13 : decode cX5_send 13 = .ok (.iand, 1) := by decide +kernel
theorem dX5_send_14 : decode cX5_send 14 = .ok (.lshl, 1) := by decide +kernel
theorem dX5_send_15 : decode cX5_send 15 = .ok (.lstore 4, 2) := by decide +kernel
theorem dX5_send_17 : decode cX5_send 17 = .ok (.aload_n 0, 1) := by decide +kernel
theorem dX5_send_18 : decode cX5_send 18 = .ok (.getfield 7, 3) := by decide +kernel
theorem dX5_send_21 : decode cX5_send 21 = .ok (.iload_n 3, 1) := by decide +kernel
theorem dX5_send_22 : decode cX5_send 22 = .ok (.iload_n 2, 1) := by decide +kernel
theorem dX5_send_23 : decode cX5_send 23 = .ok (.iconst 1, 1) := by decide +kernel
theorem dX5_send_24 : decode cX5_send 24 = .ok (.iand, 1) := by decide +kernel
theorem dX5_send_25 : decode cX5_send 25 = .ok (.iconst 1, 1) := by decide +kernel
theorem dX5_send_26 : decode cX5_send 26 = .ok (.if_icmp .ne 15, 3) := by decide +kernel
theorem dX5_send_29 : decode cX5_send 29 = .ok (.aload_n 0, 1) := by decide +kernel
theorem dX5_send_30 : decode cX5_send 30 = .ok (.getfield 7, 3) := by decide +kernel
theorem dX5_send_33 : decode cX5_send 33 = .ok (.iload_n 3, 1) := by decide +kernel
theorem dX5_send_34 : decode cX5_send 34 = .ok (.laload, 1) := by decide +kernel
theorem dX5_send_35 : decode cX5_send 35 = .ok (.lload 4, 2) := by decide +kernel
theorem dX5_send_37 : decode cX5_send 37 = .ok (.lor, 1) := by decide +kernel
theorem dX5_send_38 : decode cX5_send 38 = .ok (.goto 16, 3) := by decide +kernel
theorem dX5_send_41 : decode cX5_send 41 = .ok (.aload_n 0, 1) := by decide +kernel
theorem dX5_send_42 : decode cX5_send 42 = .ok (.getfield 7, 3) := by decide +kernel
theorem dX5_send_45 : decode cX5_send 45 = .ok (.iload_n 3, 1) := by decide +kernel
theorem dX5_send_46 : decode cX5_send 46 = .ok (.laload, 1) := by decide +kernel
theorem dX5_send_47 : decode cX5_send 47 = .ok (.lload 4, 2) := by decide +kernel
theorem dX5_send_49 : decode cX5_send 49 = .ok (.ldc2_w 17, 3) := by decide +kernel
theorem dX5_send_52 : decode cX5_send 52 = .ok (.lxor, 1) := by decide +kernel
theorem dX5_send_53 : decode cX5_send 53 = .ok (.land, 1) := by decide +kernel
theorem dX5_send_54 : decode cX5_send 54 = .ok (.lastore, 1) := by decide +kernel
theorem dX5_send_55 : decode cX5_send 55 = .ok (.return_, 1) := by decide +kernel
theorem dX5_coming_0 : decode cX5_coming 0 = .ok (.iload_n 1, 1) := by decide +kernel
theorem dX5_coming_1 : decode cX5_coming 1 = .ok (.iconst 2, 1) := by decide +kernel
theorem dX5_coming_2 : decode cX5_coming 2 = .ok (.if_icmp .ne 19, 3) := by decide +kernel
theorem dX5_coming_5 : decode cX5_coming 5 = .ok (.aload_n 0, 1) := by decide +kernel
theorem dX5_coming_6 : decode cX5_coming 6 = .ok (.getfield 13, 3) := by decide +kernel
theorem dX5_coming_9 : decode cX5_coming 9 = .ok (.getfield 19, 3) := by decide +kernel
theorem dX5_coming_12 : decode cX5_coming 12 = .ok (.ifCond .eq 7, 3) := by decide +kernel
theorem dX5_coming_15 : decode cX5_coming 15 = .ok (.iconst 0, 1) := by decide +kernel
theorem dX5_coming_16 : decode cX5_coming 16 = .ok (.goto 4, 3) := by decide +kernel
theorem dX5_coming_19 : decode cX5_coming 19 = .ok (.iconst 1, 1) := by decide +kernel
theorem dX5_coming_20 : decode cX5_coming 20 = .ok (.ireturn, 1) := by decide +kernel
theorem dX5_coming_21 : decode cX5_coming 21 = .ok (.iload_n 1, 1) := by decide +kernel
theorem dX5_coming_22 : decode cX5_coming 22 = .ok (.iconst 3, 1) := by decide +kernel
theorem dX5_coming_23 : decode cX5_coming 23 = .ok (.if_icmp .lt 9, 3) := by decide +kernel
theorem dX5_coming_26 : decode cX5_coming 26 = .ok (.iload_n 1, 1) := by decide +kernel
theorem dX5_coming_27 : decode cX5_coming 27 = .ok (.bipush 10, 2) := by decide +kernel
theorem dX5_coming_29 : decode cX5_coming 29 = .ok (.if_icmp .le 9, 3) := by decide +kernel
theorem dX5_coming_32 : decode cX5_coming 32 = .ok (.aload_n 0, 1) := by decide +kernel
theorem dX5_coming_33 : decode cX5_coming 33 = .ok (.iload_n 1, 1) := by decide +kernel
theorem dX5_coming_34 : decode cX5_coming 34 = .ok (.invokevirtual 25, 3) := by decide +kernel
theorem dX5_coming_37 : decode cX5_coming 37 = .ok (.ireturn, 1) := by decide +kernel
theorem dX5_coming_38 : decode cX5_coming 38 = .ok (.aload_n 0, 1) := by decide +kernel
theorem dX5_coming_39 : decode cX5_coming 39 = .ok (.bipush 18, 2) := by decide +kernel
theorem dX5_coming_41 : decode cX5_coming 41 = .ok (.invokevirtual 25, 3) := by decide +kernel
theorem dX5_coming_44 : decode cX5_coming 44 = .ok (.iconst 2, 1) := by decide +kernel
theorem dX5_coming_45 : decode cX5_coming 45 = .ok (.aload_n 0, 1) := by decide +kernel
theorem dX5_coming_46 : decode cX5_coming 46 = .ok (.bipush 19, 2) := by decide +kernel
theorem dX5_coming_48 : decode cX5_coming 48 = .ok (.invokevirtual 25, 3) := by decide +kernel
theorem dX5_coming_51 : decode cX5_coming 51 = .ok (.imul, 1) := by decide +kernel
theorem dX5_coming_52 : decode cX5_coming 52 = .ok (.iadd, 1) := by decide +kernel
theorem dX5_coming_53 : decode cX5_coming 53 = .ok (.iconst 4, 1) := by decide +kernel
theorem dX5_coming_54 : decode cX5_coming 54 = .ok (.aload_n 0, 1) := by decide +kernel
theorem dX5_coming_55 : decode cX5_coming 55 = .ok (.bipush 20, 2) := by decide +kernel
theorem dX5_coming_57 : decode cX5_coming 57 = .ok (.invokevirtual 25, 3) := by decide +kernel
theorem dX5_coming_60 : decode cX5_coming 60 = .ok (.imul, 1) := by decide +kernel
theorem dX5_coming_61 : decode cX5_coming 61 = .ok (.iadd, 1) := by decide +kernel
theorem dX5_coming_62 : decode cX5_coming 62 = .ok (.istore_n 2, 1) := by decide +kernel
theorem dX5_coming_63 : decode cX5_coming 63 = .ok (.aload_n 0, 1) := by decide +kernel
theorem dX5_coming_64 : decode cX5_coming 64 = .ok (.getfield 29, 3) := by decide +kernel
theorem dX5_coming_67 : decode cX5_coming 67 = .ok (.bipush 8, 2) := by decide +kernel
theorem dX5_coming_69 : decode cX5_coming 69 = .ok (.iload_n 2, 1) := by decide +kernel
theorem dX5_coming_70 : decode cX5_coming 70 = .ok (.imul, 1) := by decide +kernel
theorem dX5_coming_71 : decode cX5_coming 71 = .ok (.iload_n 1, 1) := by decide +kernel
theorem dX5_coming_72 : decode cX5_coming 72 = .ok (.iadd, 1) := by decide +kernel
theorem dX5_coming_73 : decode cX5_coming 73 = .ok (.iconst 3, 1) := by decide +kernel
theorem dX5_coming_74 : decode cX5_coming 74 = .ok (.isub, 1) := by decide +kernel
theorem dX5_coming_75 : decode cX5_coming 75 = .ok (.lushr, 1) := by decide +kernel
theorem dX5_coming_76 : decode cX5_coming 76 = .ok (.lconst 1, 1) := by decide +kernel
theorem dX5_coming_77 : decode cX5_coming 77 = .ok (.land, 1) := by decide +kernel
theorem dX5_coming_78 : decode cX5_coming 78 = .ok (.lconst 1, 1) := by decide +kernel
theorem dX5_coming_79 : decode cX5_coming 79 = .ok (.lcmp, 1) := by decide +kernel
theorem dX5_coming_80 : decode cX5_coming 80 = .ok (.ifCond .ne 7, 3) := by decide +kernel
theorem dX5_coming_83 : decode cX5_coming 83 = .ok (.iconst 0, 1) := by decide +kernel
theorem dX5_coming_84 : decode cX5_coming 84 = .ok (.goto 4, 3) := by decide +kernel
theorem dX5_coming_87 : decode cX5_coming 87 = .ok (.iconst 1, 1) := by decide +kernel
theorem dX5_coming_88 : decode cX5_coming 88 = .ok (.ireturn, 1) := by decide +kernel
theorem dX5_press_0 : decode cX5_press 0 = .ok (.lconst 1, 1) := by decide +kernel
theorem dX5_press_1 : decode cX5_press 1 = .ok (.bipush 8, 2) := by decide +kernel
theorem dX5_press_3 : decode cX5_press 3 = .ok (.iload_n 1, 1) := by decide +kernel
theorem dX5_press_4 : decode cX5_press 4 = .ok (.imul, 1) := by decide +kernel
theorem dX5_press_5 : decode cX5_press 5 = .ok (.iload_n 2, 1) := by decide +kernel
theorem dX5_press_6 : decode cX5_press 6 = .ok (.iadd, 1) := by decide +kernel
theorem dX5_press_7 : decode cX5_press 7 = .ok (.lshl, 1) := by decide +kernel
theorem dX5_press_8 : decode cX5_press 8 = .ok (.lstore 4, 2) := by decide +kernel
theorem dX5_press_10 : decode cX5_press 10 = .ok (.aload_n 0, 1) := by decide +kernel
theorem dX5_press_11 : decode cX5_press 11 = .ok (.iload_n 3, 1) := by decide +kernel
theorem dX5_press_12 : decode cX5_press 12 = .ok (.ifCond .eq 13, 3) := by decide +kernel
theorem dX5_press_15 : decode cX5_press 15 = .ok (.aload_n 0, 1) := by decide +kernel
theorem dX5_press_16 : decode cX5_press 16 = .ok (.getfield 29, 3) := by decide +kernel
theorem dX5_press_19 : decode cX5_press 19 = .ok (.lload 4, 2) := by decide +kernel
theorem dX5_press_21 : decode cX5_press 21 = .ok (.lor, 1) := by decide +kernel
theorem dX5_press_22 : decode cX5_press 22 = .ok (.goto 14, 3) := by decide +kernel
theorem dX5_press_25 : decode cX5_press 25 = .ok (.aload_n 0, 1) := by decide +kernel
theorem dX5_press_26 : decode cX5_press 26 = .ok (.getfield 29, 3) := by decide +kernel
theorem dX5_press_29 : decode cX5_press 29 = .ok (.lload 4, 2) := by decide +kernel
theorem dX5_press_31 : decode cX5_press 31 = .ok (.ldc2_w 17, 3) := by decide +kernel
theorem dX5_press_34 : decode cX5_press 34 = .ok (.lxor, 1) := by decide +kernel
theorem dX5_press_35 : decode cX5_press 35 = .ok (.land, 1) := by decide +kernel
theorem dX5_press_36 : decode cX5_press 36 = .ok (.putfield 29, 3) := by decide +kernel
theorem dX5_press_39 : decode cX5_press 39 = .ok (.return_, 1) := by decide +kernel
theorem dX6_init_0 : decode cX6_init 0 = .ok (.aload_n 0, 1) := by decide +kernel
theorem dX6_init_1 : decode cX6_init 1 = .ok (.invokespecial 1, 3) := by decide +kernel
theorem dX6_init_4 : decode cX6_init 4 = .ok (.aload_n 0, 1) := by decide +kernel
theorem dX6_init_5 : decode cX6_init 5 = .ok (.new 7, 3) := by decide +kernel
theorem dX6_init_8 : decode cX6_init 8 = .ok (.dup, 1) := by decide +kernel
theorem dX6_init_9 : decode cX6_init 9 = .ok (.sipush 1000, 3) := by decide +kernel
theorem dX6_init_12 : decode cX6_init 12 = .ok (.invokespecial 11, 3) := by decide +kernel
theorem dX6_init_15 : decode cX6_init 15 = .ok (.putfield 14, 3) := by decide +kernel
theorem dX6_init_18 : decode cX6_init 18 = .ok (.aload_n 0, 1) := by decide +kernel
theorem dX6_init_19 : decode cX6_init 19 = .ok (.new 18, 3) := by decide +kernel
theorem dX6_init_22 : decode cX6_init 22 = .ok (.dup, 1) := by decide +kernel
theorem dX6_init_23 : decode cX6_init 23 = .ok (.invokespecial 20, 3) := by decide +kernel
theorem dX6_init_26 : decode cX6_init 26 = .ok (.putfield 21, 3) := by decide +kernel
theorem dX6_init_29 : decode cX6_init 29 = .ok (.aload_n 0, 1) := by decide +kernel
theorem dX6_init_30 : decode cX6_init 30 = .ok (.new 25, 3) := by decide +kernel
theorem dX6_init_33 : decode cX6_init 33 = .ok (.dup, 1) := by decide +kernel
theorem dX6_init_34 : decode cX6_init 34 = .ok (.invokespecial 27, 3) := by decide +kernel
theorem dX6_init_37 : decode cX6_init 37 = .ok (.putfield 28, 3) := by decide +kernel
theorem dX6_init_40 : decode cX6_init 40 = .ok (.aload_n 0, 1) := by decide +kernel
theorem dX6_init_41 : decode cX6_init 41 = .ok (.new 32, 3) := by decide +kernel
theorem dX6_init_44 : decode cX6_init 44 = .ok (.dup, 1) := by decide +kernel
theorem dX6_init_45 : decode cX6_init 45 = .ok (.aload_n 0, 1) := by decide +kernel
theorem dX6_init_46 : decode cX6_init 46 = .ok (.getfield 21, 3) := by decide +kernel
theorem dX6_init_49 : decode cX6_init 49 = .ok (.invokespecial 34, 3) := by decide +kernel
theorem dX6_init_52 : decode cX6_init 52 = .ok (.putfield 37, 3) := by decide +kernel
theorem dX6_init_55 : decode cX6_init 55 = .ok (.aload_n 0, 1) := by decide +kernel
theorem dX6_init_56 : decode cX6_init 56 = .ok (.new 41, 3) := by decide +kernel
theorem dX6_init_59 : decode cX6_init 59 = .ok (.dup, 1) := by decide +kernel
theorem dX6_init_60 : decode cX6_init 60 = .ok (.aload_n 0, 1) := by decide +kernel
theorem dX6_init_61 : decode cX6_init 61 = .ok (.getfield 21, 3) := by decide +kernel
theorem dX6_init_64 : decode cX6_init 64 = .ok (.aload_n 0, 1) := by decide +kernel
theorem dX6_init_65 : decode cX6_init 65 = .ok (.getfield 28, 3) := by decide +kernel
theorem dX6_init_68 : decode cX6_init 68 = .ok (.invokespecial 43, 3) := by decide +kernel
theorem dX6_init_71 : decode cX6_init 71 = .ok (.putfield 46, 3) := by decide +kernel
theorem dX6_init_74 : decode cX6_init 74 = .ok (.aload_n 0, 1) := by decide +kernel
theorem dX6_init_75 : decode cX6_init 75 = .ok (.new 50, 3) := by decide +kernel
theorem dX6_init_78 : decode cX6_init 78 = .ok (.dup, 1) := by decide +kernel
theorem dX6_init_79 : decode cX6_init 79 = .ok (.aload_n 0, 1) := by decide +kernel
theorem dX6_init_80 : decode cX6_init 80 = .ok (.getfield 46, 3) := by decide +kernel
theorem dX6_init_83 : decode cX6_init 83 = .ok (.aload_n 0, 1) := by decide +kernel
theorem dX6_init_84 : decode cX6_init 84 = .ok (.getfield 21, 3) := by decide +kernel
theorem dX6_init_87 : decode cX6_init 87 = .ok (.aload_n 0, 1) := by decide +kernel
theorem dX6_init_88 : decode cX6_init 88 = .ok (.getfield 37, 3) := by decide +kernel
theorem dX6_init_91 : decode cX6_init 91 = .ok (.invokespecial 52, 3) := by decide +kernel
theorem dX6_init_94 : decode cX6_init 94 = .ok (.putfield 55, 3) := by decide +kernel
theorem dX6_init_97 : decode cX6_init 97 = .ok (.return_, 1) := by decide +kernel
theorem dX6_feed_0 : decode cX6_feed 0 = .ok (.aload_n 0, 1) := by decide +kernel
theorem dX6_feed_1 : decode cX6_feed 1 = .ok (.getfield 59, 3) := by decide +kernel
theorem dX6_feed_4 : decode cX6_feed 4 = .ok (.sipush 980, 3) := by decide +kernel
theorem dX6_feed_7 : decode cX6_feed 7 = .ok (.if_icmp .le 5, 3) := by decide +kernel
theorem dX6_feed_10 : decode cX6_feed 10 = .ok (.iconst (-1), 1) := by decide +kernel
theorem dX6_feed_11 : decode cX6_feed 11 = .ok (.ireturn, 1) := by decide +kernel
theorem dX6_feed_12 : decode cX6_feed 12 = .ok (.aload_n 0, 1) := by decide +kernel
theorem dX6_feed_13 : decode cX6_feed 13 = .ok (.iload_n 1, 1) := by decide +kernel
theorem dX6_feed_14 : decode cX6_feed 14 = .ok (.invokevirtual 63, 3) := by decide +kernel
theorem dX6_feed_17 : decode cX6_feed 17 = .ok (.aload_n 0, 1) := by decide +kernel
theorem dX6_feed_18 : decode cX6_feed 18 = .ok (.iload_n 2, 1) := by decide +kernel
