theorem dX3_readStatus_15 : decode cX3_readStatus 15 = .ok (.aload_n 0, 1) := by decide +kernel
theorem dX3_readStatus_16 : decode cX3_readStatus 16 = .ok (.iconst 0, 1) := by decide +kernel
theorem dX3_readStatus_17 : decode cX3_readStatus 17 = .ok (.putfield 38, 3) := by decide +kernel
theorem dX3_readStatus_20 : decode cX3_readStatus 20 = .ok (.aload_n 0, 1) := by decide +kernel
theorem dX3_readStatus_21 : decode cX3_readStatus 21 = .ok (.iconst (-1), 1) := by decide +kernel
theorem dX3_readStatus_22 : decode cX3_readStatus 22 = .ok (.putfield 24, 3) := by decide +kernel
theorem dX3_readStatus_25 : decode cX3_readStatus 25 = .ok (.iload_n 1, 1) := by decide +kernel
theorem dX3_readStatus_26 : decode cX3_readStatus 26 = .ok (.ireturn, 1) := by decide +kernel
theorem dX3_writeData_0 : decode cX3_writeData 0 = .ok (.aload_n 0, 1) := by decide +kernel
theorem dX3_writeData_1 : decode cX3_writeData 1 = .ok (.getfield 14, 3) := by decide +kernel
theorem dX3_writeData_4 : decode cX3_writeData 4 = .ok (.aload_n 0, 1) := by decide +kernel
theorem dX3_writeData_5 : decode cX3_writeData 5 = .ok (.getfield 31, 3) := by decide +kernel
theorem dX3_writeData_8 : decode cX3_writeData 8 = .ok (.iload_n 1, 1) := by decide +kernel
theorem dX3_writeData_9 : decode cX3_writeData 9 = .ok (.invokevirtual 42, 3) := by decide +kernel
theorem dX3_writeData_12 : decode cX3_writeData 12 = .ok (.aload_n 0, 1) := by decide +kernel
theorem dX3_writeData_13 : decode cX3_writeData 13 = .ok (.iload_n 1, 1) := by decide +kernel
theorem dX3_writeData_14 : decode cX3_writeData 14 = .ok (.putfield 28, 3) := by decide +kernel
theorem dX3_writeData_17 : decode cX3_writeData 17 = .ok (.aload_n 0, 1) := by decide +kernel
theorem dX3_writeData_18 : decode cX3_writeData 18 = .ok (.aload_n 0, 1) := by decide +kernel
theorem dX3_writeData_19 : decode cX3_writeData 19 = .ok (.getfield 31, 3) := by decide +kernel
theorem dX3_writeData_22 : decode cX3_writeData 22 = .ok (.iconst 1, 1) := by decide +kernel
theorem dX3_writeData_23 : decode cX3_writeData 23 = .ok (.iadd, 1) := by decide +kernel
theorem dX3_writeData_24 : decode cX3_writeData 24 = .ok (.sipush 16383, 3) := by decide +kernel
theorem dX3_writeData_27 : decode cX3_writeData 27 = .ok (.iand, 1) := by decide +kernel
theorem dX3_writeData_28 : decode cX3_writeData 28 = .ok (.putfield 31, 3) := by decide +kernel
theorem dX3_writeData_31 : decode cX3_writeData 31 = .ok (.aload_n 0, 1) := by decide +kernel
theorem dX3_writeData_32 : decode cX3_writeData 32 = .ok (.iconst (-1), 1) := by decide +kernel
theorem dX3_writeData_33 : decode cX3_writeData 33 = .ok (.putfield 24, 3) := by decide +kernel
theorem dX3_writeData_36 : decode cX3_writeData 36 = .ok (.return_, 1) := by decide +kernel
theorem dX3_writeControl_0 : decode cX3_writeControl 0 = .ok (.aload_n 0, 1) := by decide +kernel
theorem dX3_writeControl_1 : decode cX3_writeControl 1 = .ok (.getfield 24, 3) := by decide +kernel
theorem dX3_writeControl_4 : decode cX3_writeControl 4 = .ok (.iconst (-1), 1) := by decide +kernel
theorem dX3_writeControl_5 : decode cX3_writeControl 5 = .ok (.if_icmp .ne 9, 3) := by decide +kernel
theorem dX3_writeControl_8 : decode cX3_writeControl 8 = .ok (.aload_n 0, 1) := by decide +kernel
theorem dX3_writeControl_9 : decode cX3_writeControl 9 = .ok (.iload_n 1, 1) := by decide +kernel
theorem dX3_writeControl_10 : decode cX3_writeControl 10 = .ok (.putfield 24, 3) := by decide +kernel
theorem dX3_writeControl_13 : decode cX3_writeControl 13 = .ok (.return_, 1) := by decide +kernel
theorem dX3_writeControl_14 : decode cX3_writeControl 14 = .ok (.aload_n 0, 1) := by decide +kernel
theorem dX3_writeControl_15 : decode cX3_writeControl 15 = .ok (.getfield 24, 3) := by decide +kernel
theorem dX3_writeControl_18 : decode cX3_writeControl 18 = .ok (.istore_n 2, 1) := by decide +kernel
theorem dX3_writeControl_19 : decode cX3_writeControl 19 = .ok (.aload_n 0, 1) := by decide +kernel
theorem dX3_writeControl_20 : decode cX3_writeControl 20 = .ok (.iconst (-1), 1) := by decide +kernel
theorem dX3_writeControl_21 : decode cX3_writeControl 21 = .ok (.putfield 24, 3) := by decide +kernel
theorem dX3_writeControl_24 : decode cX3_writeControl 24 = .ok (.iload_n 1, 1) := by decide +kernel
theorem dX3_writeControl_25 : decode cX3_writeControl 25 = .ok (.sipush 192, 3) := by decide +kernel
theorem dX3_writeControl_28 : decode cX3_writeControl 28 = .ok (.iand, 1) := by decide +kernel
theorem dX3_writeControl_29 : decode cX3_writeControl 29 = .ok (.istore_n 3, 1) := by decide +kernel
theorem dX3_writeControl_30 : decode cX3_writeControl 30 = .ok (.iload_n 3, 1) := by decide +kernel
theorem dX3_writeControl_31 : decode cX3_writeControl 31 = .ok (.sipush 128, 3) := by decide +kernel
theorem dX3_writeControl_34 : decode cX3_writeControl 34 = .ok (.if_icmp .ne 14, 3) := by decide +kernel
theorem dX3_writeControl_37 : decode cX3_writeControl 37 = .ok (.aload_n 0, 1) := by decide +kernel
theorem dX3_writeControl_38 : decode cX3_writeControl 38 = .ok (.getfield 20, 3) := by decide +kernel
theorem dX3_writeControl_41 : decode cX3_writeControl 41 = .ok (.iload_n 1, 1) := by decide +kernel
theorem dX3_writeControl_42 : decode cX3_writeControl 42 = .ok (.bipush 7, 2) := by decide +kernel
theorem dX3_writeControl_44 : decode cX3_writeControl 44 = .ok (.iand, 1) := by decide +kernel
theorem dX3_writeControl_45 : decode cX3_writeControl 45 = .ok (.iload_n 2, 1) := by decide +kernel
theorem dX3_writeControl_46 : decode cX3_writeControl 46 = .ok (.iastore, 1) := by decide +kernel
theorem dX3_writeControl_47 : decode cX3_writeControl 47 = .ok (.return_, 1) := by decide +kernel
theorem dX3_writeControl_48 : decode cX3_writeControl 48 = .ok (.aload_n 0, 1) := by decide +kernel
theorem dX3_writeControl_49 : decode cX3_writeControl 49 = .ok (.iload_n 1, 1) := by decide +kernel
theorem dX3_writeControl_50 : decode cX3_writeControl 50 = .ok (.bipush 63, 2) := by decide +kernel
theorem dX3_writeControl_52 : decode cX3_writeControl 52 = .ok (.iand, 1) := by decide +kernel
theorem dX3_writeControl_53 : decode cX3_writeControl 53 = .ok (.bipush 8, 2) := by decide +kernel
theorem dX3_writeControl_55 : decode cX3_writeControl 55 = .ok (.ishl, 1) := by decide +kernel
theorem dX3_writeControl_56 : decode cX3_writeControl 56 = .ok (.iload_n 2, 1) := by decide +kernel
theorem dX3_writeControl_57 : decode cX3_writeControl 57 = .ok (.ior, 1) := by decide +kernel
theorem dX3_writeControl_58 : decode cX3_writeControl 58 = .ok (.putfield 31, 3) := by decide +kernel
theorem dX3_writeControl_61 : decode cX3_writeControl 61 = .ok (.iload_n 3, 1) := by decide +kernel
theorem dX3_writeControl_62 : decode cX3_writeControl 62 = .ok (.ifCond .ne 32, 3) := by decide +kernel
theorem dX3_writeControl_65 : decode cX3_writeControl 65 = .ok (.aload_n 0, 1) := by decide +kernel
theorem dX3_writeControl_66 : decode cX3_writeControl 66 = .ok (.aload_n 0, 1) := by decide +kernel
theorem dX3_writeControl_67 : decode cX3_writeControl 67 = .ok (.getfield 14, 3) := by decide +kernel
theorem dX3_writeControl_70 : decode cX3_writeControl 70 = .ok (.aload_n 0, 1) := by decide +kernel
theorem dX3_writeControl_71 : decode cX3_writeControl 71 = .ok (.getfield 31, 3) := by decide +kernel
theorem dX3_writeControl_74 : decode cX3_writeControl 74 = .ok (.invokevirtual 34, 3) := by decide +kernel
theorem dX3_writeControl_77 : decode cX3_writeControl 77 = .ok (.putfield 28, 3) := by decide +kernel
theorem dX3_writeControl_80 : decode cX3_writeControl 80 = .ok (.aload_n 0, 1) := by decide +kernel
theorem dX3_writeControl_81 : decode cX3_writeControl 81 = .ok (.aload_n 0, 1) := by decide +kernel
theorem dX3_writeControl_82 : decode cX3_writeControl 82 = .ok (.getfield 31, 3) := by decide +kernel
theorem dX3_writeControl_85 : decode cX3_writeControl 85 = .ok (.iconst 1, 1) := by decide +kernel
theorem dX3_writeControl_86 : decode cX3_writeControl 86 = .ok (.iadd, 1) := by decide +kernel
theorem dX3_writeControl_87 : decode cX3_writeControl 87 = .ok (.sipush 16383, 3) := by decide +kernel
theorem dX3_writeControl_90 : decode cX3_writeControl 90 = .ok (.iand, 1) := by decide +kernel
theorem dX3_writeControl_91 : decode cX3_writeControl 91 = .ok (.putfield 31, 3) := by decide +kernel
theorem dX3_writeControl_94 : decode cX3_writeControl 94 = .ok (.return_, 1) := by decide +kernel
theorem dX3_asksForInterrupt_0 : decode cX3_asksForInterrupt 0 = .ok (.aload_n 0, 1) := by decide +kernel
theorem dX3_asksForInterrupt_1 : decode cX3_asksForInterrupt 1 = .ok (.getfield 38, 3) := by decide +kernel
theorem dX3_asksForInterrupt_4 : decode cX3_asksForInterrupt 4 = .ok (.ifCond .eq 19, 3) := by decide +kernel
theorem dX3_asksForInterrupt_7 : decode cX3_asksForInterrupt 7 = .ok (.aload_n 0, 1) := by decide +kernel
theorem dX3_asksForInterrupt_8 : decode cX3_asksForInterrupt 8 = .ok (.getfield 20, 3) := by decide +kernel
theorem dX3_asksForInterrupt_11 : decode cX3_asksForInterrupt 11 = .ok (.iconst 1, 1) := by decide +kernel
theorem dX3_asksForInterrupt_12 : decode cX3_asksForInterrupt 12 = .ok (.iaload, 1) := by decide +kernel
theorem dX3_asksForInterrupt_13 : decode cX3_asksForInterrupt 13 = .ok (.bipush 32, 2) := by decide +kernel
theorem dX3_asksForInterrupt_15 : decode cX3_asksForInterrupt 15 = .ok (.iand, 1) := by decide +kernel
theorem dX3_asksForInterrupt_16 : decode cX3_asksForInterrupt 16 = .ok (.ifCond .eq 7, 3) := by decide +kernel
theorem dX3_asksForInterrupt_19 : decode cX3_asksForInterrupt 19 = .ok (.iconst 1, 1) := by decide +kernel
theorem dX3_asksForInterrupt_20 : decode cX3_asksForInterrupt 20 = .ok (.goto 4, 3) := by decide +kernel
theorem dX3_asksForInterrupt_23 : decode cX3_asksForInterrupt 23 = .ok (.iconst 0, 1) := by decide +kernel
theorem dX3_asksForInterrupt_24 : decode cX3_asksForInterrupt 24 = .ok (.ireturn, 1) := by decide +kernel
theorem dX3_colourAt_0 : decode cX3_colourAt 0 = .ok (.aload_n 0, 1) := by decide +kernel
theorem dX3_colourAt_1 : decode cX3_colourAt 1 = .ok (.getfield 20, 3) := by decide +kernel
theorem dX3_colourAt_4 : decode cX3_colourAt 4 = .ok (.bipush 7, 2) := by decide +kernel
theorem dX3_colourAt_6 : decode cX3_colourAt 6 = .ok (.iaload, 1) := by decide +kernel
theorem dX3_colourAt_7 : decode cX3_colourAt 7 = .ok (.bipush 15, 2) := by decide +kernel
theorem dX3_colourAt_9 : decode cX3_colourAt 9 = .ok (.iand, 1) := by decide +kernel
theorem dX3_colourAt_10 : decode cX3_colourAt 10 = .ok (.istore_n 3, 1) := by decide +kernel
theorem dX3_colourAt_11 : decode cX3_colourAt 11 = .ok (.aload_n 0, 1) := by decide +kernel
theorem dX3_colourAt_12 : decode cX3_colourAt 12 = .ok (.getfield 20, 3) := by decide +kernel
theorem dX3_colourAt_15 : decode cX3_colourAt 15 = .ok (.iconst 1, 1) := by decide +kernel
theorem dX3_colourAt_16 : decode cX3_colourAt 16 = .ok (.iaload, 1) := by decide +kernel
theorem dX3_colourAt_17 : decode cX3_colourAt 17 = .ok (.bipush 64, 2) := by decide +kernel
theorem dX3_colourAt_19 : decode cX3_colourAt 19 = .ok (.iand, 1) := by decide +kernel
theorem dX3_colourAt_20 : decode cX3_colourAt 20 = .ok (.ifCond .ne 5, 3) := by decide +kernel
theorem dX3_colourAt_23 : decode cX3_colourAt 23 = .ok (.iload_n 3, 1) := by decide +kernel
theorem dX3_colourAt_24 : decode cX3_colourAt 24 = .ok (.ireturn, 1) := by decide +kernel
theorem dX3_colourAt_25 : decode cX3_colourAt 25 = .ok (.aload_n 0, 1) := by decide +kernel
theorem dX3_colourAt_26 : decode cX3_colourAt 26 = .ok (.getfield 14, 3) := by decide +kernel
theorem dX3_colourAt_29 : decode cX3_colourAt 29 = .ok (.aload_n 0, 1) := by decide +kernel
theorem dX3_colourAt_30 : decode cX3_colourAt 30 = .ok (.getfield 20, 3) := by decide +kernel
theorem dX3_colourAt_33 : decode cX3_colourAt 33 = .ok (.iconst 2, 1) := by decide +kernel
theorem dX3_colourAt_34 : decode cX3_colourAt 34 = .ok (.iaload, 1) := by decide +kernel
theorem dX3_colourAt_35 : decode cX3_colourAt 35 = .ok (.bipush 15, 2) := by decide +kernel
theorem dX3_colourAt_37 : decode cX3_colourAt 37 = .ok (.iand, 1) := by decide +kernel
theorem dX3_colourAt_38 : decode cX3_colourAt 38 = .ok (.sipush 1024, 3) := by decide +kernel
theorem dX3_colourAt_41 : decode cX3_colourAt 41 = .ok (.imul, 1) := by decide +kernel
theorem dX3_colourAt_42 : decode cX3_colourAt 42 = .ok (.bipush 32, 2) := by decide +kernel
theorem dX3_colourAt_44 : decode cX3_colourAt 44 = .ok (.iload_n 2, 1) := by decide +kernel
theorem dX3_colourAt_45 : decode cX3_colourAt 45 = .ok (.iconst 3, 1) := by decide +kernel
theorem dX3_colourAt_46 : decode cX3_colourAt 46 = .ok (.ishr, 1) := by decide +kernel
theorem dX3_colourAt_47 : decode cX3_colourAt 47 = .ok (.imul, 1) := by decide +kernel
theorem dX3_colourAt_48 : decode cX3_colourAt 48 = .ok (.iadd, 1) := by decide +kernel
theorem dX3_colourAt_49 : decode cX3_colourAt 49 = .ok (.iload_n 1, 1) := by decide +kernel
theorem dX3_colourAt_50 : decode cX3_colourAt 50 = .ok (.iconst 3, 1) := by decide +kernel
theorem dX3_colourAt_51 : decode cX3_colourAt 51 = .ok (.ishr, 1) := by decide +kernel
theorem dX3_colourAt_52 : decode cX3_colourAt 52 = .ok (.iadd, 1) := by decide +kernel
theorem dX3_colourAt_53 : decode cX3_colourAt 53 = .ok (.invokevirtual 34, 3) := by decide +kernel
theorem dX3_colourAt_56 : decode cX3_colourAt 56 = .ok (.istore 4, 2) := by decide +kernel
theorem dX3_colourAt_58 : decode cX3_colourAt 58 = .ok (.aload_n 0, 1) := by decide +kernel
theorem dX3_colourAt_59 : decode cX3_colourAt 59 = .ok (.getfield 14, 3) := by decide +kernel
theorem dX3_colourAt_62 : decode cX3_colourAt 62 = .ok (.aload_n 0, 1) := by decide +kernel
theorem dX3_colourAt_63 : decode cX3_colourAt 63 = .ok (.getfield 20, 3) := by decide +kernel
theorem dX3_colourAt_66 : decode cX3_colourAt 66 = .ok (.iconst 4, 1) := by decide +kernel
theorem dX3_colourAt_67 : decode cX3_colourAt 67 = .ok (.iaload, 1) := by decide +kernel
theorem dX3_colourAt_68 : decode cX3_colourAt 68 = .ok (.bipush 7, 2) := by decide +kernel
theorem dX3_colourAt_70 : decode cX3_colourAt 70 = .ok (.iand, 1) := by decide +kernel
theorem dX3_colourAt_71 : decode cX3_colourAt 71 = .ok (.sipush 2048, 3) := by decide +kernel
theorem dX3_colourAt_74 : decode cX3_colourAt 74 = .ok (.imul, 1) := by decide +kernel
theorem dX3_colourAt_75 : decode cX3_colourAt 75 = .ok (.bipush 8, 2) := by decide +kernel
theorem dX3_colourAt_77 : decode cX3_colourAt 77 = .ok (.iload 4, 2) := by decide +kernel
theorem dX3_colourAt_79 : decode cX3_colourAt 79 = .ok (.imul, 1) := by decide +kernel
theorem dX3_colourAt_80 : decode cX3_colourAt 80 = .ok (.iadd, 1) := by decide +kernel
theorem dX3_colourAt_81 : decode cX3_colourAt 81 = .ok (.iload_n 2, 1) := by decide +kernel
theorem dX3_colourAt_82 : decode cX3_colourAt 82 = .ok (.bipush 7, 2) := by decide +kernel
theorem dX3_colourAt_84 : decode cX3_colourAt 84 = .ok (.iand, 1) := by decide +kernel
theorem dX3_colourAt_85 : decode cX3_colourAt 85 = .ok (.iadd, 1) := by decide +kernel
theorem dX3_colourAt_86 : decode cX3_colourAt 86 = .ok (.invokevirtual 34, 3) := by decide +kernel
theorem dX3_colourAt_89 : decode cX3_colourAt 89 = .ok (.istore 5, 2) := by decide +kernel
theorem dX3_colourAt_91 : decode cX3_colourAt 91 = .ok (.aload_n 0, 1) := by decide +kernel
theorem dX3_colourAt_92 : decode cX3_colourAt 92 = .ok (.getfield 14, 3) := by decide +kernel
theorem dX3_colourAt_95 : decode cX3_colourAt 95 = .ok (.aload_n 0, 1) := by decide +kernel
theorem dX3_colourAt_96 : decode cX3_colourAt 96 = .ok (.getfield 20, 3) := by decide +kernel
theorem dX3_colourAt_99 : decode cX3_colourAt 99 = .ok (.iconst 3, 1) := by decide +kernel
theorem dX3_colourAt_100 : decode cX3_colourAt 100 = .ok (.iaload, 1) := by decide +kernel
theorem dX3_colourAt_101 : decode cX3_colourAt 101 = .ok (.bipush 64, 2) := by decide +kernel
theorem dX3_colourAt_103 : decode cX3_colourAt 103 = .ok (.imul, 1) := by decide +kernel
theorem dX3_colourAt_104 : decode cX3_colourAt 104 = .ok (.iload 4, 2) := by decide +kernel
theorem dX3_colourAt_106 : decode cX3_colourAt 106 = .ok (.iconst 3, 1) := by decide +kernel
theorem dX3_colourAt_107 : decode cX3_colourAt 107 = .ok (.ishr, 1) := by decide +kernel
theorem dX3_colourAt_108 : decode cX3_colourAt 108 = .ok (.iadd, 1) := by decide +kernel
theorem dX3_colourAt_109 : decode cX3_colourAt 109 = .ok (.sipush 16383, 3) := by decide +kernel
theorem dX3_colourAt_112 : decode cX3_colourAt 112 = .ok (.iand, 1) := by decide +kernel
theorem dX3_colourAt_113 : decode cX3_colourAt 113 = .ok (.invokevirtual 34, 3) := by decide +kernel
theorem dX3_colourAt_116 : decode cX3_colourAt 116 = .ok (.istore 6, 2) := by decide +kernel
theorem dX3_colourAt_118 : decode cX3_colourAt 118 = .ok (.iload 5, 2) := by decide +kernel
theorem dX3_colourAt_120 : decode cX3_colourAt 120 = .ok (.bipush 7, 2) := by decide +kernel
theorem dX3_colourAt_122 : decode cX3_colourAt 122 = .ok (.iload_n 1, 1) := by decide +kernel
theorem dX3_colourAt_123 : decode cX3_colourAt 123 = .ok (.bipush 7, 2) := by decide +kernel
theorem dX3_colourAt_125 : decode cX3_colourAt 125 = .ok (.iand, 1) := by decide +kernel
theorem dX3_colourAt_126 : decode cX3_colourAt 126 = .ok (.isub, 1) := by decide +kernel
theorem dX3_colourAt_127 : decode cX3_colourAt 127 = .ok (.ishr, 1) := by decide +kernel
theorem dX3_colourAt_128 : decode cX3_colourAt 128 = .ok (.iconst 1, 1) := by decide +kernel
theorem dX3_colourAt_129 : decode cX3_colourAt 129 = .ok (.iand, 1) := by decide +kernel
theorem dX3_colourAt_130 : decode cX3_colourAt 130 = .ok (.iconst 1, 1) := by decide +kernel
theorem dX3_colourAt_131 : decode cX3_colourAt 131 = .ok (.if_icmp .ne 7, 3) := by decide +kernel
theorem dX3_colourAt_134 : decode cX3_colourAt 134 = .ok (.iconst 1, 1) := by decide +kernel
theorem dX3_colourAt_135 : decode cX3_colourAt 135 = .ok (.goto 4, 3) := by decide +kernel
theorem dX3_colourAt_138 : decode cX3_colourAt 138 = .ok (.iconst 0, 1) := by decide +kernel
theorem dX3_colourAt_139 : decode cX3_colourAt 139 = .ok (.istore 7, 2) := by decide +kernel
theorem dX3_colourAt_141 : decode cX3_colourAt 141 = .ok (.iload 7, 2) := by decide +kernel
theorem dX3_colourAt_143 : decode cX3_colourAt 143 = .ok (.ifCond .eq 10, 3) := by decide +kernel
theorem dX3_colourAt_146 : decode cX3_colourAt 146 = .ok (.iload 6, 2) := by decide +kernel
theorem dX3_colourAt_148 : decode cX3_colourAt 148 = .ok (.iconst 4, 1) := by decide +kernel
theorem dX3_colourAt_149 : decode cX3_colourAt 149 = .ok (.ishr, 1) := by decide +kernel
theorem dX3_colourAt_150 : decode cX3_colourAt 150 = .ok (.goto 8, 3) := by decide +kernel
theorem dX3_colourAt_153 : decode cX3_colourAt 153 = .ok (.iload 6, 2) := by decide +kernel
theorem dX3_colourAt_155 : decode cX3_colourAt 155 = .ok (.bipush 15, 2) := by decide +kernel
theorem dX3_colourAt_157 : decode cX3_colourAt 157 = .ok (.iand, 1) := by decide +kernel
theorem dX3_colourAt_158 : decode cX3_colourAt 158 = .ok (.istore 8, 2) := by decide +kernel
theorem dX3_colourAt_160 : decode cX3_colourAt 160 = .ok (.iload 8, 2) := by decide +kernel
theorem dX3_colourAt_162 : decode cX3_colourAt 162 = .ok (.ifCond .ne 7, 3) := by decide +kernel
theorem dX3_colourAt_165 : decode cX3_colourAt 165 = .ok (.iload_n 3, 1) := by decide +kernel
theorem dX3_colourAt_166 : decode cX3_colourAt 166 = .ok (.goto 5, 3) := by decide +kernel
theorem dX3_colourAt_169 : decode cX3_colourAt 169 = .ok (.iload 8, 2) := by decide +kernel
theorem dX3_colourAt_171 : decode cX3_colourAt 171 = .ok (.ireturn, 1) := by decide +kernel
theorem dX4_init_0 : decode cX4_init 0 = .ok (.aload_n 0, 1) := by decide +kernel
theorem dX4_init_1 : decode cX4_init 1 = .ok (.invokespecial 1, 3) := by decide +kernel
theorem dX4_init_4 : decode cX4_init 4 = .ok (.aload_n 0, 1) := by decide +kernel
theorem dX4_init_5 : decode cX4_init 5 = .ok (.iconst 2, 1) := by decide +kernel
theorem dX4_init_6 : decode cX4_init 6 = .ok (.putfield 9, 3) := by decide +kernel
theorem dX4_init_9 : decode cX4_init 9 = .ok (.aload_n 0, 1) := by decide +kernel
theorem dX4_init_10 : decode cX4_init 10 = .ok (.aload_n 1, 1) := by decide +kernel
theorem dX4_init_11 : decode cX4_init 11 = .ok (.putfield 13, 3) := by decide +kernel
theorem dX4_init_14 : decode cX4_init 14 = .ok (.aload_n 0, 1) := by decide +kernel
theorem dX4_init_15 : decode cX4_init 15 = .ok (.aload_n 2, 1) := by decide +kernel
theorem dX4_init_16 : decode cX4_init 16 = .ok (.putfield 17, 3) := by decide +kernel
theorem dX4_init_19 : decode cX4_init 19 = .ok (.aload_n 0, 1) := by decide +kernel
theorem dX4_init_20 : decode cX4_init 20 = .ok (.aload_n 3, 1) := by decide +kernel
theorem dX4_init_21 : decode cX4_init 21 = .ok (.putfield 21, 3) := by decide +kernel
theorem dX4_init_24 : decode cX4_init 24 = .ok (.return_, 1) := by decide +kernel
theorem dX4_restart_0 : decode cX4_restart 0 = .ok (.aload_n 0, 1) := by decide +kernel
theorem dX4_restart_1 : decode cX4_restart 1 = .ok (.aload_n 0, 1) := by decide +kernel
theorem dX4_restart_2 : decode cX4_restart 2 = .ok (.getfield 13, 3) := by decide +kernel
theorem dX4_restart_5 : decode cX4_restart 5 = .ok (.iconst 0, 1) := by decide +kernel
theorem dX4_restart_6 : decode cX4_restart 6 = .ok (.invokevirtual 25, 3) := by decide +kernel
theorem dX4_restart_9 : decode cX4_restart 9 = .ok (.ldc 31, 2) := by decide +kernel
theorem dX4_restart_11 : decode cX4_restart 11 = .ok (.iand, 1) := by decide +kernel
theorem dX4_restart_12 : decode cX4_restart 12 = .ok (.putfield 32, 3) := by decide +kernel
theorem dX4_restart_15 : decode cX4_restart 15 = .ok (.aload_n 0, 1) := by decide +kernel
theorem dX4_restart_16 : decode cX4_restart 16 = .ok (.aload_n 0, 1) := by decide +kernel
theorem dX4_restart_17 : decode cX4_restart 17 = .ok (.getfield 13, 3) := by decide +kernel
theorem dX4_restart_20 : decode cX4_restart 20 = .ok (.iconst 2, 1) := by decide +kernel
theorem dX4_restart_21 : decode cX4_restart 21 = .ok (.invokevirtual 25, 3) := by decide +kernel
theorem dX4_restart_24 : decode cX4_restart 24 = .ok (.ldc 31, 2) := by decide +kernel
theorem dX4_restart_26 : decode cX4_restart 26 = .ok (.iand, 1) := by decide +kernel
theorem dX4_restart_27 : decode cX4_restart 27 = .ok (.putfield 35, 3) := by decide +kernel
theorem dX4_restart_30 : decode cX4_restart 30 = .ok (.aload_n 0, 1) := by decide +kernel
theorem dX4_restart_31 : decode cX4_restart 31 = .ok (.iconst 0, 1) := by decide +kernel
theorem dX4_restart_32 : decode cX4_restart 32 = .ok (.putfield 38, 3) := by decide +kernel
theorem dX4_restart_35 : decode cX4_restart 35 = .ok (.aload_n 0, 1) := by decide +kernel
theorem dX4_restart_36 : decode cX4_restart 36 = .ok (.iconst 0, 1) := by decide +kernel
theorem dX4_restart_37 : decode cX4_restart 37 = .ok (.putfield 9, 3) := by decide +kernel
theorem dX4_restart_40 : decode cX4_restart 40 = .ok (.aload_n 0, 1) := by decide +kernel
theorem dX4_restart_41 : decode cX4_restart 41 = .ok (.iconst 0, 1) := by decide +kernel
theorem dX4_restart_42 : decode cX4_restart 42 = .ok (.putfield 41, 3) := by decide +kernel
theorem dX4_restart_45 : decode cX4_restart 45 = .ok (.return_, 1) := by decide +kernel
theorem dX4_fetch_0 : decode cX4_fetch 0 = .ok (.aload_n 0, 1) := by decide +kernel
theorem dX4_fetch_1 : decode cX4_fetch 1 = .ok (.getfield 9, 3) := by decide +kernel
theorem dX4_fetch_4 : decode cX4_fetch 4 = .ok (.iconst 2, 1) := by decide +kernel
theorem dX4_fetch_5 : decode cX4_fetch 5 = .ok (.if_icmp .ne 5, 3) := by decide +kernel
theorem dX4_fetch_8 : decode cX4_fetch 8 = .ok (.iconst 0, 1) := by decide +kernel
theorem dX4_fetch_9 : decode cX4_fetch 9 = .ok (.ireturn, 1) := by decide +kernel
theorem dX4_fetch_10 : decode cX4_fetch 10 = .ok (.aload_n 0, 1) := by decide +kernel
theorem dX4_fetch_11 : decode cX4_fetch 11 = .ok (.getfield 44, 3) := by decide +kernel
theorem dX4_fetch_14 : decode cX4_fetch 14 = .ok (.ifCond .ne 7, 3) := by decide +kernel
theorem dX4_fetch_17 : decode cX4_fetch 17 = .ok (.aload_n 0, 1) := by decide +kernel
theorem dX4_fetch_18 : decode cX4_fetch 18 = .ok (.invokevirtual 48, 3) := by decide +kernel
theorem dX4_fetch_21 : decode cX4_fetch 21 = .ok (.aload_n 0, 1) := by decide +kernel
theorem dX4_fetch_22 : decode cX4_fetch 22 = .ok (.getfield 9, 3) := by decide +kernel
theorem dX4_fetch_25 : decode cX4_fetch 25 = .ok (.ifCond .ne 14, 3) := by decide +kernel
theorem dX4_fetch_28 : decode cX4_fetch 28 = .ok (.aload_n 0, 1) := by decide +kernel
theorem dX4_fetch_29 : decode cX4_fetch 29 = .ok (.invokevirtual 51, 3) := by decide +kernel
theorem dX4_fetch_32 : decode cX4_fetch 32 = .ok (.ifCond .eq 7, 3) := by decide +kernel
theorem dX4_fetch_35 : decode cX4_fetch 35 = .ok (.iconst 1, 1) := by decide +kernel
theorem dX4_fetch_36 : decode cX4_fetch 36 = .ok (.goto 4, 3) := by decide +kernel
theorem dX4_fetch_39 : decode cX4_fetch 39 = .ok (.iconst 0, 1) := by decide +kernel
theorem dX4_fetch_40 : decode cX4_fetch 40 = .ok (.ireturn, 1) := by decide +kernel
theorem dX4_takeInterrupt_0 : decode cX4_takeInterrupt 0 = .ok (.aload_n 0, 1) := by decide +kernel
theorem dX4_takeInterrupt_1 : decode cX4_takeInterrupt 1 = .ok (.invokevirtual 55, 3) := by decide +kernel
theorem dX4_takeInterrupt_4 : decode cX4_takeInterrupt 4 = .ok (.istore_n 1, 1) := by decide +kernel
theorem dX4_takeInterrupt_5 : decode cX4_takeInterrupt 5 = .ok (.iload_n 1, 1) := by decide +kernel
theorem dX4_takeInterrupt_6 : decode cX4_takeInterrupt 6 = .ok (.aload_n 0, 1) := by decide +kernel
theorem dX4_takeInterrupt_7 : decode cX4_takeInterrupt 7 = .ok (.getfield 38, 3) := by decide +kernel
theorem dX4_takeInterrupt_10 : decode cX4_takeInterrupt 10 = .ok (.bipush 15, 2) := by decide +kernel
theorem dX4_takeInterrupt_12 : decode cX4_takeInterrupt 12 = .ok (.iand, 1) := by decide +kernel
theorem dX4_takeInterrupt_13 : decode cX4_takeInterrupt 13 = .ok (.if_icmp .le 4, 3) := by decide +kernel
theorem dX4_takeInterrupt_16 : decode cX4_takeInterrupt 16 = .ok (.return_, 1) := by decide +kernel
theorem dX4_takeInterrupt_17 : decode cX4_takeInterrupt 17 = .ok (.aload_n 0, 1) := by decide +kernel
theorem dX4_takeInterrupt_18 : decode cX4_takeInterrupt 18 = .ok (.iconst 4, 1) := by decide +kernel
theorem dX4_takeInterrupt_19 : decode cX4_takeInterrupt 19 = .ok (.iload_n 1, 1) := by decide +kernel
theorem dX4_takeInterrupt_20 : decode cX4_takeInterrupt 20 = .ok (.imul, 1) := by decide +kernel
theorem dX4_takeInterrupt_21 : decode cX4_takeInterrupt 21 = .ok (.invokevirtual 59, 3) := by decide +kernel
theorem dX4_takeInterrupt_24 : decode cX4_takeInterrupt 24 = .ok (.aload_n 0, 1) := by decide +kernel
theorem dX4_takeInterrupt_25 : decode cX4_takeInterrupt 25 = .ok (.aload_n 0, 1) := by decide +kernel
theorem dX4_takeInterrupt_26 : decode cX4_takeInterrupt 26 = .ok (.getfield 38, 3) := by decide +kernel
theorem dX4_takeInterrupt_29 : decode cX4_takeInterrupt 29 = .ok (.bipush (-16), 2) := by decide +kernel
theorem dX4_takeInterrupt_31 : decode cX4_takeInterrupt 31 = .ok (.iand, 1) := by decide +kernel
theorem dX4_takeInterrupt_32 : decode cX4_takeInterrupt 32 = .ok (.iload_n 1, 1) := by decide +kernel
theorem dX4_takeInterrupt_33 : decode cX4_takeInterrupt 33 = .ok (.iconst 1, 1) := by decide +kernel
theorem dX4_takeInterrupt_34 : decode cX4_takeInterrupt 34 = .ok (.isub, 1) := by decide +kernel
theorem dX4_takeInterrupt_35 : decode cX4_takeInterrupt 35 = .ok (.ior, 1) := by decide +kernel
theorem dX4_takeInterrupt_36 : decode cX4_takeInterrupt 36 = .ok (.putfield 38, 3) := by decide +kernel
theorem dX4_takeInterrupt_39 : decode cX4_takeInterrupt 39 = .ok (.aload_n 0, 1) := by decide +kernel
theorem dX4_takeInterrupt_40 : decode cX4_takeInterrupt 40 = .ok (.dup, 1) := by decide +kernel
theorem dX4_takeInterrupt_41 : decode cX4_takeInterrupt 41 = .ok (.getfield 41, 3) := by decide +kernel
theorem dX4_takeInterrupt_44 : decode cX4_takeInterrupt 44 = .ok (.iconst 1, 1) := by decide +kernel
theorem dX4_takeInterrupt_45 : decode cX4_takeInterrupt 45 = .ok (.iload_n 1, 1) := by decide +kernel
theorem dX4_takeInterrupt_46 : decode cX4_takeInterrupt 46 = .ok (.ishl, 1) := by decide +kernel
theorem dX4_takeInterrupt_47 : decode cX4_takeInterrupt 47 = .ok (.iconst (-1), 1) := by decide +kernel
theorem dX4_takeInterrupt_48 : decode cX4_takeInterrupt 48 = .ok (.ixor, 1) := by decide +kernel
theorem dX4_takeInterrupt_49 : decode cX4_takeInterrupt 49 = .ok (.iand, 1) := by decide +kernel
theorem dX4_takeInterrupt_50 : decode cX4_takeInterrupt 50 = .ok (.putfield 41, 3) := by decide +kernel
theorem dX4_takeInterrupt_53 : decode cX4_takeInterrupt 53 = .ok (.aload_n 0, 1) := by decide +kernel
theorem dX4_takeInterrupt_54 : decode cX4_takeInterrupt 54 = .ok (.dup, 1) := by decide +kernel
theorem dX4_takeInterrupt_55 : decode cX4_takeInterrupt 55 = .ok (.getfield 63, 3) := by decide +kernel
theorem dX4_takeInterrupt_58 : decode cX4_takeInterrupt 58 = .ok (.iconst 1, 1) := by decide +kernel
theorem dX4_takeInterrupt_59 : decode cX4_takeInterrupt 59 = .ok (.iadd, 1) := by decide +kernel
theorem dX4_takeInterrupt_60 : decode cX4_takeInterrupt 60 = .ok (.putfield 63, 3) := by decide +kernel
theorem dX4_takeInterrupt_63 : decode cX4_takeInterrupt 63 = .ok (.aload_n 0, 1) := by decide +kernel
theorem dX4_takeInterrupt_64 : decode cX4_takeInterrupt 64 = .ok (.iconst 0, 1) := by decide +kernel
theorem dX4_takeInterrupt_65 : decode cX4_takeInterrupt 65 = .ok (.putfield 9, 3) := by decide +kernel
theorem dX4_takeInterrupt_68 : decode cX4_takeInterrupt 68 = .ok (.return_, 1) := by decide +kernel
theorem dX4_askedLevel_0 : decode cX4_askedLevel 0 = .ok (.aload_n 0, 1) := by decide +kernel
theorem dX4_askedLevel_1 : decode cX4_askedLevel 1 = .ok (.getfield 17, 3) := by decide +kernel
theorem dX4_askedLevel_4 : decode cX4_askedLevel 4 = .ok (.invokevirtual 66, 3) := by decide +kernel
theorem dX4_askedLevel_7 : decode cX4_askedLevel 7 = .ok (.ifCond .eq 17, 3) := by decide +kernel
theorem dX4_askedLevel_10 : decode cX4_askedLevel 10 = .ok (.aload_n 0, 1) := by decide +kernel
theorem dX4_askedLevel_11 : decode cX4_askedLevel 11 = .ok (.getfield 21, 3) := by decide +kernel
theorem dX4_askedLevel_14 : decode cX4_askedLevel 14 = .ok (.iconst 2, 1) := by decide +kernel
theorem dX4_askedLevel_15 : decode cX4_askedLevel 15 = .ok (.invokevirtual 73, 3) := by decide +kernel
theorem dX4_askedLevel_18 : decode cX4_askedLevel 18 = .ok (.iconst 1, 1) := by decide +kernel
theorem dX4_askedLevel_19 : decode cX4_askedLevel 19 = .ok (.if_icmp .ne 5, 3) := by decide +kernel
theorem dX4_askedLevel_22 : decode cX4_askedLevel 22 = .ok (.iconst 1, 1) := by decide +kernel
theorem dX4_askedLevel_23 : decode cX4_askedLevel 23 = .ok (.ireturn, 1) := by decide +kernel
theorem dX4_askedLevel_24 : decode cX4_askedLevel 24 = .ok (.aload_n 0, 1) := by decide +kernel
theorem dX4_askedLevel_25 : decode cX4_askedLevel 25 = .ok (.getfield 41, 3) := by decide +kernel
theorem dX4_askedLevel_28 : decode cX4_askedLevel 28 = .ok (.ifCond .ne 6, 3) := by decide +kernel
theorem dX4_askedLevel_31 : decode cX4_askedLevel 31 = .ok (.bipush 16, 2) := by decide +kernel
theorem dX4_askedLevel_33 : decode cX4_askedLevel 33 = .ok (.ireturn, 1) := by decide +kernel
theorem dX4_askedLevel_34 : decode cX4_askedLevel 34 = .ok (.iconst 2, 1) := by decide +kernel
theorem dX4_askedLevel_35 : decode cX4_askedLevel 35 = .ok (.istore_n 1, 1) := by decide +kernel
theorem dX4_askedLevel_36 : decode cX4_askedLevel 36 = .ok (.iload_n 1, 1) := by decide +kernel
theorem dX4_askedLevel_37 : decode cX4_askedLevel 37 = .ok (.bipush 15, 2) := by decide +kernel
theorem dX4_askedLevel_39 : decode cX4_askedLevel 39 = .ok (.if_icmp .gt 23, 3) := by decide +kernel
theorem dX4_askedLevel_42 : decode cX4_askedLevel 42 = .ok (.aload_n 0, 1) := by decide +kernel
theorem dX4_askedLevel_43 : decode cX4_askedLevel 43 = .ok (.getfield 41, 3) := by decide +kernel
theorem dX4_askedLevel_46 : decode cX4_askedLevel 46 = .ok (.iload_n 1, 1) := by decide +kernel
theorem dX4_askedLevel_47 : decode cX4_askedLevel 47 = .ok (.ishr, 1) := by decide +kernel
theorem dX4_askedLevel_48 : decode cX4_askedLevel 48 = .ok (.iconst 1, 1) := by decide +kernel
theorem dX4_askedLevel_49 : decode cX4_askedLevel 49 = .ok (.iand, 1) := by decide +kernel
theorem dX4_askedLevel_50 : decode cX4_askedLevel 50 = .ok (.iconst 1, 1) := by decide +kernel
theorem dX4_askedLevel_51 : decode cX4_askedLevel 51 = .ok (.if_icmp .ne 5, 3) := by decide +kernel
theorem dX4_askedLevel_54 : decode cX4_askedLevel 54 = .ok (.iload_n 1, 1) := by decide +kernel
theorem dX4_askedLevel_55 : decode cX4_askedLevel 55 = .ok (.ireturn, 1) := by decide +kernel
theorem dX4_askedLevel_56 : decode cX4_askedLevel 56 = .ok (.iinc 1 1, 3) := by decide +kernel
theorem dX4_askedLevel_59 : decode cX4_askedLevel 59 = .ok (.goto (-23), 3) := by decide +kernel
theorem dX4_askedLevel_62 : decode cX4_askedLevel 62 = .ok (.bipush 16, 2) := by decide +kernel
theorem dX4_askedLevel_64 : decode cX4_askedLevel 64 = .ok (.ireturn, 1) := by decide +kernel
theorem dX4_fetchInstruction_0 : decode cX4_fetchInstruction 0 = .ok (.aload_n 0, 1) := by decide +kernel
theorem dX4_fetchInstruction_1 : decode cX4_fetchInstruction 1 = .ok (.getfield 35, 3) := by decide +kernel
theorem dX4_fetchInstruction_4 : decode cX4_fetchInstruction 4 = .ok (.istore_n 1, 1) := by decide +kernel
theorem dX4_fetchInstruction_5 : decode cX4_fetchInstruction 5 = .ok (.aload_n 0, 1) := by decide +kernel
theorem dX4_fetchInstruction_6 : decode cX4_fetchInstruction 6 = .ok (.aload_n 0, 1) := by decide +kernel
theorem dX4_fetchInstruction_7 : decode cX4_fetchInstruction 7 = .ok (.invokevirtual 76, 3) := by decide +kernel
theorem dX4_fetchInstruction_10 : decode cX4_fetchInstruction 10 = .ok (.putfield 79, 3) := by decide +kernel
theorem dX4_fetchInstruction_13 : decode cX4_fetchInstruction 13 = .ok (.aload_n 0, 1) := by decide +kernel
theorem dX4_fetchInstruction_14 : decode cX4_fetchInstruction 14 = .ok (.getfield 79, 3) := by decide +kernel
theorem dX4_fetchInstruction_17 : decode cX4_fetchInstruction 17 = .ok (.invokestatic 82, 3) := by decide +kernel
theorem dX4_fetchInstruction_20 : decode cX4_fetchInstruction 20 = .ok (.istore_n 2, 1) := by decide +kernel
theorem dX4_fetchInstruction_21 : decode cX4_fetchInstruction 21 = .ok (.aload_n 0, 1) := by decide +kernel
theorem dX4_fetchInstruction_22 : decode cX4_fetchInstruction 22 = .ok (.getfield 79, 3) := by decide +kernel
theorem dX4_fetchInstruction_25 : decode cX4_fetchInstruction 25 = .ok (.invokestatic 86, 3) := by decide +kernel
theorem dX4_fetchInstruction_28 : decode cX4_fetchInstruction 28 = .ok (.ifCond .eq 49, 3) := by decide +kernel
theorem dX4_fetchInstruction_31 : decode cX4_fetchInstruction 31 = .ok (.aload_n 0, 1) := by decide +kernel
theorem dX4_fetchInstruction_32 : decode cX4_fetchInstruction 32 = .ok (.aload_n 0, 1) := by decide +kernel
theorem dX4_fetchInstruction_33 : decode cX4_fetchInstruction 33 = .ok (.getfield 13, 3) := by decide +kernel
theorem dX4_fetchInstruction_36 : decode cX4_fetchInstruction 36 = .ok (.aload_n 0, 1) := by decide +kernel
theorem dX4_fetchInstruction_37 : decode cX4_fetchInstruction 37 = .ok (.aload_n 0, 1) := by decide +kernel
theorem dX4_fetchInstruction_38 : decode cX4_fetchInstruction 38 = .ok (.getfield 79, 3) := by decide +kernel
theorem dX4_fetchInstruction_41 : decode cX4_fetchInstruction 41 = .ok (.iconst 0, 1) := by decide +kernel
theorem dX4_fetchInstruction_42 : decode cX4_fetchInstruction 42 = .ok (.invokevirtual 89, 3) := by decide +kernel
theorem dX4_fetchInstruction_45 : decode cX4_fetchInstruction 45 = .ok (.invokevirtual 25, 3) := by decide +kernel
theorem dX4_fetchInstruction_48 : decode cX4_fetchInstruction 48 = .ok (.putfield 79, 3) := by decide +kernel
theorem dX4_fetchInstruction_51 : decode cX4_fetchInstruction 51 = .ok (.aload_n 0, 1) := by decide +kernel
theorem dX4_fetchInstruction_52 : decode cX4_fetchInstruction 52 = .ok (.getfield 79, 3) := by decide +kernel
theorem dX4_fetchInstruction_55 : decode cX4_fetchInstruction 55 = .ok (.invokestatic 82, 3) := by decide +kernel
theorem dX4_fetchInstruction_58 : decode cX4_fetchInstruction 58 = .ok (.ifCond .ne 13, 3) := by decide +kernel
theorem dX4_fetchInstruction_61 : decode cX4_fetchInstruction 61 = .ok (.aload_n 0, 1) := by decide +kernel
theorem dX4_fetchInstruction_62 : decode cX4_fetchInstruction 62 = .ok (.getfield 79, 3) := by decide +kernel
theorem dX4_fetchInstruction_65 : decode cX4_fetchInstruction 65 = .ok (.invokestatic 86, 3) := by decide +kernel
theorem dX4_fetchInstruction_68 : decode cX4_fetchInstruction 68 = .ok (.ifCond .eq 7, 3) := by decide +kernel
theorem dX4_fetchInstruction_71 : decode cX4_fetchInstruction 71 = .ok (.iconst 1, 1) := by decide +kernel
theorem dX4_fetchInstruction_72 : decode cX4_fetchInstruction 72 = .ok (.goto 4, 3) := by decide +kernel
theorem dX4_fetchInstruction_75 : decode cX4_fetchInstruction 75 = .ok (.iconst 0, 1) := by decide +kernel
theorem dX4_fetchInstruction_76 : decode cX4_fetchInstruction 76 = .ok (.istore_n 2, 1) := by decide +kernel
theorem dX4_fetchInstruction_77 : decode cX4_fetchInstruction 77 = .ok (.iload_n 2, 1) := by decide +kernel
theorem dX4_fetchInstruction_78 : decode cX4_fetchInstruction 78 = .ok (.ifCond .eq 13, 3) := by decide +kernel
theorem dX4_fetchInstruction_81 : decode cX4_fetchInstruction 81 = .ok (.aload_n 0, 1) := by decide +kernel
theorem dX4_fetchInstruction_82 : decode cX4_fetchInstruction 82 = .ok (.iload_n 1, 1) := by decide +kernel
theorem dX4_fetchInstruction_83 : decode cX4_fetchInstruction 83 = .ok (.putfield 35, 3) := by decide +kernel
theorem dX4_fetchInstruction_86 : decode cX4_fetchInstruction 86 = .ok (.aload_n 0, 1) := by decide +kernel
theorem dX4_fetchInstruction_87 : decode cX4_fetchInstruction 87 = .ok (.iconst 2, 1) := by decide +kernel
theorem dX4_fetchInstruction_88 : decode cX4_fetchInstruction 88 = .ok (.putfield 9, 3) := by decide +kernel
theorem dX4_fetchInstruction_91 : decode cX4_fetchInstruction 91 = .ok (.iload_n 2, 1) := by decide +kernel
theorem dX4_fetchInstruction_92 : decode cX4_fetchInstruction 92 = .ok (.ifCond .ne 7, 3) := by decide +kernel
theorem dX4_fetchInstruction_95 : decode cX4_fetchInstruction 95 = .ok (.iconst 1, 1) := by decide +kernel
theorem dX4_fetchInstruction_96 : decode cX4_fetchInstruction 96 = .ok (.goto 4, 3) := by decide +kernel
theorem dX4_fetchInstruction_99 : decode cX4_fetchInstruction 99 = .ok (.iconst 0, 1) := by decide +kernel
theorem dX4_fetchInstruction_100 : decode cX4_fetchInstruction 100 = .ok (.ireturn, 1) := by decide +kernel
theorem dX4_isExecute_0 : decode cX4_isExecute 0 = .ok (.iload_n 0, 1) := by decide +kernel
theorem dX4_isExecute_1 : decode cX4_isExecute 1 = .ok (.ldc 93, 2) := by decide +kernel
theorem dX4_isExecute_3 : decode cX4_isExecute 3 = .ok (.iand, 1) := by decide +kernel
theorem dX4_isExecute_4 : decode cX4_isExecute 4 = .ok (.sipush 1152, 3) := by decide +kernel
theorem dX4_isExecute_7 : decode cX4_isExecute 7 = .ok (.if_icmp .ne 7, 3) := by decide +kernel
theorem dX4_isExecute_10 : decode cX4_isExecute 10 = .ok (.iconst 1, 1) := by decide +kernel
theorem dX4_isExecute_11 : decode cX4_isExecute 11 = .ok (.goto 4, 3) := by decide +kernel
theorem dX4_isExecute_14 : decode cX4_isExecute 14 = .ok (.iconst 0, 1) := by decide +kernel
theorem dX4_isExecute_15 : decode cX4_isExecute 15 = .ok (.ireturn, 1) := by decide +kernel
theorem dX4_isNone_0 : decode cX4_isNone 0 = .ok (.iload_n 0, 1) := by decide +kernel
theorem dX4_isNone_1 : decode cX4_isNone 1 = .ok (.sipush 512, 3) := by decide +kernel
theorem dX4_isNone_4 : decode cX4_isNone 4 = .ok (.if_icmp .lt 45, 3) := by decide +kernel
theorem dX4_isNone_7 : decode cX4_isNone 7 = .ok (.iload_n 0, 1) := by decide +kernel
theorem dX4_isNone_8 : decode cX4_isNone 8 = .ok (.sipush 800, 3) := by decide +kernel
theorem dX4_isNone_11 : decode cX4_isNone 11 = .ok (.if_icmp .lt 10, 3) := by decide +kernel
theorem dX4_isNone_14 : decode cX4_isNone 14 = .ok (.iload_n 0, 1) := by decide +kernel
theorem dX4_isNone_15 : decode cX4_isNone 15 = .ok (.sipush 831, 3) := by decide +kernel
theorem dX4_isNone_18 : decode cX4_isNone 18 = .ok (.if_icmp .le 31, 3) := by decide +kernel
theorem dX4_isNone_21 : decode cX4_isNone 21 = .ok (.iload_n 0, 1) := by decide +kernel
theorem dX4_isNone_22 : decode cX4_isNone 22 = .ok (.sipush 1920, 3) := by decide +kernel
theorem dX4_isNone_25 : decode cX4_isNone 25 = .ok (.if_icmp .lt 10, 3) := by decide +kernel
theorem dX4_isNone_28 : decode cX4_isNone 28 = .ok (.iload_n 0, 1) := by decide +kernel
