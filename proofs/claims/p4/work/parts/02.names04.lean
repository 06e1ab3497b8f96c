theorem dX4_doImmediate_13 : decode cX4_doImmediate 13 = .ok (.istore_n 3, 1) := by decide +kernel
theorem dX4_doImmediate_14 : decode cX4_doImmediate 14 = .ok (.iload_n 2, 1) := by decide +kernel
theorem dX4_doImmediate_15 : decode cX4_doImmediate 15 = .ok (.sipush 512, 3) := by decide +kernel
theorem dX4_doImmediate_18 : decode cX4_doImmediate 18 = .ok (.if_icmp .ne 7, 3) := by decide +kernel
theorem dX4_doImmediate_21 : decode cX4_doImmediate 21 = .ok (.iconst 0, 1) := by decide +kernel
theorem dX4_doImmediate_22 : decode cX4_doImmediate 22 = .ok (.goto 11, 3) := by decide +kernel
theorem dX4_doImmediate_25 : decode cX4_doImmediate 25 = .ok (.aload_n 0, 1) := by decide +kernel
theorem dX4_doImmediate_26 : decode cX4_doImmediate 26 = .ok (.getfield 13, 3) := by decide +kernel
theorem dX4_doImmediate_29 : decode cX4_doImmediate 29 = .ok (.iload_n 3, 1) := by decide +kernel
theorem dX4_doImmediate_30 : decode cX4_doImmediate 30 = .ok (.invokevirtual 25, 3) := by decide +kernel
theorem dX4_doImmediate_33 : decode cX4_doImmediate 33 = .ok (.istore 4, 2) := by decide +kernel
theorem dX4_doImmediate_35 : decode cX4_doImmediate 35 = .ok (.aload_n 0, 1) := by decide +kernel
theorem dX4_doImmediate_36 : decode cX4_doImmediate 36 = .ok (.invokevirtual 76, 3) := by decide +kernel
theorem dX4_doImmediate_39 : decode cX4_doImmediate 39 = .ok (.istore 5, 2) := by decide +kernel
theorem dX4_doImmediate_41 : decode cX4_doImmediate 41 = .ok (.iload_n 2, 1) := by decide +kernel
theorem dX4_doImmediate_42 : decode cX4_doImmediate 42 = .ok (.sipush 640, 3) := by decide +kernel
theorem dX4_doImmediate_45 : decode cX4_doImmediate 45 = .ok (.if_icmp .ne 13, 3) := by decide +kernel
theorem dX4_doImmediate_48 : decode cX4_doImmediate 48 = .ok (.aload_n 0, 1) := by decide +kernel
theorem dX4_doImmediate_49 : decode cX4_doImmediate 49 = .ok (.iload 4, 2) := by decide +kernel
theorem dX4_doImmediate_51 : decode cX4_doImmediate 51 = .ok (.iload 5, 2) := by decide +kernel
theorem dX4_doImmediate_53 : decode cX4_doImmediate 53 = .ok (.iconst 0, 1) := by decide +kernel
theorem dX4_doImmediate_54 : decode cX4_doImmediate 54 = .ok (.invokevirtual 145, 3) := by decide +kernel
theorem dX4_doImmediate_57 : decode cX4_doImmediate 57 = .ok (.return_, 1) := by decide +kernel
theorem dX4_doImmediate_58 : decode cX4_doImmediate 58 = .ok (.iload_n 2, 1) := by decide +kernel
theorem dX4_doImmediate_59 : decode cX4_doImmediate 59 = .ok (.lookupswitch 67 #[(544, 33), (576, 47), (608, 57)], 33) := by decide +kernel
theorem dX4_doImmediate_92 : decode cX4_doImmediate 92 = .ok (.aload_n 0, 1) := by decide +kernel
theorem dX4_doImmediate_93 : decode cX4_doImmediate 93 = .ok (.iload 4, 2) := by decide +kernel
theorem dX4_doImmediate_95 : decode cX4_doImmediate 95 = .ok (.iload 5, 2) := by decide +kernel
theorem dX4_doImmediate_97 : decode cX4_doImmediate 97 = .ok (.iconst 0, 1) := by decide +kernel
theorem dX4_doImmediate_98 : decode cX4_doImmediate 98 = .ok (.invokevirtual 150, 3) := by decide +kernel
theorem dX4_doImmediate_101 : decode cX4_doImmediate 101 = .ok (.istore 6, 2) := by decide +kernel
theorem dX4_doImmediate_103 : decode cX4_doImmediate 103 = .ok (.goto 27, 3) := by decide +kernel
theorem dX4_doImmediate_106 : decode cX4_doImmediate 106 = .ok (.iload 4, 2) := by decide +kernel
theorem dX4_doImmediate_108 : decode cX4_doImmediate 108 = .ok (.iload 5, 2) := by decide +kernel
theorem dX4_doImmediate_110 : decode cX4_doImmediate 110 = .ok (.iand, 1) := by decide +kernel
theorem dX4_doImmediate_111 : decode cX4_doImmediate 111 = .ok (.istore 6, 2) := by decide +kernel
theorem dX4_doImmediate_113 : decode cX4_doImmediate 113 = .ok (.goto 17, 3) := by decide +kernel
theorem dX4_doImmediate_116 : decode cX4_doImmediate 116 = .ok (.iload 4, 2) := by decide +kernel
theorem dX4_doImmediate_118 : decode cX4_doImmediate 118 = .ok (.iload 5, 2) := by decide +kernel
theorem dX4_doImmediate_120 : decode cX4_doImmediate 120 = .ok (.ior, 1) := by decide +kernel
theorem dX4_doImmediate_121 : decode cX4_doImmediate 121 = .ok (.istore 6, 2) := by decide +kernel
theorem dX4_doImmediate_123 : decode cX4_doImmediate 123 = .ok (.goto 7, 3) := by decide +kernel
theorem dX4_doImmediate_126 : decode cX4_doImmediate 126 = .ok (.iload 5, 2) := by decide +kernel
theorem dX4_doImmediate_128 : decode cX4_doImmediate 128 = .ok (.istore 6, 2) := by decide +kernel
theorem dX4_doImmediate_130 : decode cX4_doImmediate 130 = .ok (.iload_n 2, 1) := by decide +kernel
theorem dX4_doImmediate_131 : decode cX4_doImmediate 131 = .ok (.sipush 544, 3) := by decide +kernel
theorem dX4_doImmediate_134 : decode cX4_doImmediate 134 = .ok (.if_icmp .eq 11, 3) := by decide +kernel
theorem dX4_doImmediate_137 : decode cX4_doImmediate 137 = .ok (.aload_n 0, 1) := by decide +kernel
theorem dX4_doImmediate_138 : decode cX4_doImmediate 138 = .ok (.iload 6, 2) := by decide +kernel
theorem dX4_doImmediate_140 : decode cX4_doImmediate 140 = .ok (.iconst 0, 1) := by decide +kernel
theorem dX4_doImmediate_141 : decode cX4_doImmediate 141 = .ok (.iconst 0, 1) := by decide +kernel
theorem dX4_doImmediate_142 : decode cX4_doImmediate 142 = .ok (.invokevirtual 145, 3) := by decide +kernel
theorem dX4_doImmediate_145 : decode cX4_doImmediate 145 = .ok (.aload_n 0, 1) := by decide +kernel
theorem dX4_doImmediate_146 : decode cX4_doImmediate 146 = .ok (.getfield 13, 3) := by decide +kernel
theorem dX4_doImmediate_149 : decode cX4_doImmediate 149 = .ok (.iload_n 3, 1) := by decide +kernel
theorem dX4_doImmediate_150 : decode cX4_doImmediate 150 = .ok (.iload 6, 2) := by decide +kernel
theorem dX4_doImmediate_152 : decode cX4_doImmediate 152 = .ok (.invokevirtual 131, 3) := by decide +kernel
theorem dX4_doImmediate_155 : decode cX4_doImmediate 155 = .ok (.return_, 1) := by decide +kernel
theorem dX4_doControl_0 : decode cX4_doControl 0 = .ok (.iload_n 1, 1) := by decide +kernel
theorem dX4_doControl_1 : decode cX4_doControl 1 = .ok (.ldc 149, 2) := by decide +kernel
theorem dX4_doControl_3 : decode cX4_doControl 3 = .ok (.iand, 1) := by decide +kernel
theorem dX4_doControl_4 : decode cX4_doControl 4 = .ok (.lookupswitch 177 #[(672, 68), (704, 90), (736, 112), (768, 126), (832, 148), (864, 156), (896, 170)], 68) := by decide +kernel
theorem dX4_doControl_72 : decode cX4_doControl 72 = .ok (.aload_n 0, 1) := by decide +kernel
theorem dX4_doControl_73 : decode cX4_doControl 73 = .ok (.getfield 13, 3) := by decide +kernel
theorem dX4_doControl_76 : decode cX4_doControl 76 = .ok (.aload_n 0, 1) := by decide +kernel
theorem dX4_doControl_77 : decode cX4_doControl 77 = .ok (.iload_n 1, 1) := by decide +kernel
theorem dX4_doControl_78 : decode cX4_doControl 78 = .ok (.bipush 15, 2) := by decide +kernel
theorem dX4_doControl_80 : decode cX4_doControl 80 = .ok (.iand, 1) := by decide +kernel
theorem dX4_doControl_81 : decode cX4_doControl 81 = .ok (.invokevirtual 128, 3) := by decide +kernel
theorem dX4_doControl_84 : decode cX4_doControl 84 = .ok (.aload_n 0, 1) := by decide +kernel
theorem dX4_doControl_85 : decode cX4_doControl 85 = .ok (.getfield 32, 3) := by decide +kernel
theorem dX4_doControl_88 : decode cX4_doControl 88 = .ok (.invokevirtual 131, 3) := by decide +kernel
theorem dX4_doControl_91 : decode cX4_doControl 91 = .ok (.goto 90, 3) := by decide +kernel
theorem dX4_doControl_94 : decode cX4_doControl 94 = .ok (.aload_n 0, 1) := by decide +kernel
theorem dX4_doControl_95 : decode cX4_doControl 95 = .ok (.getfield 13, 3) := by decide +kernel
theorem dX4_doControl_98 : decode cX4_doControl 98 = .ok (.aload_n 0, 1) := by decide +kernel
theorem dX4_doControl_99 : decode cX4_doControl 99 = .ok (.iload_n 1, 1) := by decide +kernel
theorem dX4_doControl_100 : decode cX4_doControl 100 = .ok (.bipush 15, 2) := by decide +kernel
theorem dX4_doControl_102 : decode cX4_doControl 102 = .ok (.iand, 1) := by decide +kernel
theorem dX4_doControl_103 : decode cX4_doControl 103 = .ok (.invokevirtual 128, 3) := by decide +kernel
theorem dX4_doControl_106 : decode cX4_doControl 106 = .ok (.aload_n 0, 1) := by decide +kernel
theorem dX4_doControl_107 : decode cX4_doControl 107 = .ok (.getfield 38, 3) := by decide +kernel
theorem dX4_doControl_110 : decode cX4_doControl 110 = .ok (.invokevirtual 131, 3) := by decide +kernel
theorem dX4_doControl_113 : decode cX4_doControl 113 = .ok (.goto 68, 3) := by decide +kernel
theorem dX4_doControl_116 : decode cX4_doControl 116 = .ok (.aload_n 0, 1) := by decide +kernel
theorem dX4_doControl_117 : decode cX4_doControl 117 = .ok (.aload_n 0, 1) := by decide +kernel
theorem dX4_doControl_118 : decode cX4_doControl 118 = .ok (.invokevirtual 76, 3) := by decide +kernel
theorem dX4_doControl_121 : decode cX4_doControl 121 = .ok (.ldc 31, 2) := by decide +kernel
theorem dX4_doControl_123 : decode cX4_doControl 123 = .ok (.iand, 1) := by decide +kernel
theorem dX4_doControl_124 : decode cX4_doControl 124 = .ok (.putfield 32, 3) := by decide +kernel
theorem dX4_doControl_127 : decode cX4_doControl 127 = .ok (.goto 54, 3) := by decide +kernel
theorem dX4_doControl_130 : decode cX4_doControl 130 = .ok (.aload_n 0, 1) := by decide +kernel
theorem dX4_doControl_131 : decode cX4_doControl 131 = .ok (.aload_n 0, 1) := by decide +kernel
theorem dX4_doControl_132 : decode cX4_doControl 132 = .ok (.getfield 38, 3) := by decide +kernel
theorem dX4_doControl_135 : decode cX4_doControl 135 = .ok (.bipush (-16), 2) := by decide +kernel
theorem dX4_doControl_137 : decode cX4_doControl 137 = .ok (.iand, 1) := by decide +kernel
theorem dX4_doControl_138 : decode cX4_doControl 138 = .ok (.aload_n 0, 1) := by decide +kernel
theorem dX4_doControl_139 : decode cX4_doControl 139 = .ok (.invokevirtual 76, 3) := by decide +kernel
theorem dX4_doControl_142 : decode cX4_doControl 142 = .ok (.bipush 15, 2) := by decide +kernel
theorem dX4_doControl_144 : decode cX4_doControl 144 = .ok (.iand, 1) := by decide +kernel
theorem dX4_doControl_145 : decode cX4_doControl 145 = .ok (.ior, 1) := by decide +kernel
theorem dX4_doControl_146 : decode cX4_doControl 146 = .ok (.putfield 38, 3) := by decide +kernel
theorem dX4_doControl_149 : decode cX4_doControl 149 = .ok (.goto 32, 3) := by decide +kernel
theorem dX4_doControl_152 : decode cX4_doControl 152 = .ok (.aload_n 0, 1) := by decide +kernel
theorem dX4_doControl_153 : decode cX4_doControl 153 = .ok (.iconst 1, 1) := by decide +kernel
theorem dX4_doControl_154 : decode cX4_doControl 154 = .ok (.putfield 9, 3) := by decide +kernel
theorem dX4_doControl_157 : decode cX4_doControl 157 = .ok (.goto 24, 3) := by decide +kernel
theorem dX4_doControl_160 : decode cX4_doControl 160 = .ok (.aload_n 0, 1) := by decide +kernel
theorem dX4_doControl_161 : decode cX4_doControl 161 = .ok (.dup, 1) := by decide +kernel
theorem dX4_doControl_162 : decode cX4_doControl 162 = .ok (.getfield 38, 3) := by decide +kernel
theorem dX4_doControl_165 : decode cX4_doControl 165 = .ok (.bipush (-16), 2) := by decide +kernel
theorem dX4_doControl_167 : decode cX4_doControl 167 = .ok (.iand, 1) := by decide +kernel
theorem dX4_doControl_168 : decode cX4_doControl 168 = .ok (.putfield 38, 3) := by decide +kernel
theorem dX4_doControl_171 : decode cX4_doControl 171 = .ok (.goto 10, 3) := by decide +kernel
theorem dX4_doControl_174 : decode cX4_doControl 174 = .ok (.aload_n 0, 1) := by decide +kernel
theorem dX4_doControl_175 : decode cX4_doControl 175 = .ok (.invokevirtual 154, 3) := by decide +kernel
theorem dX4_doControl_178 : decode cX4_doControl 178 = .ok (.goto 3, 3) := by decide +kernel
theorem dX4_doControl_181 : decode cX4_doControl 181 = .ok (.return_, 1) := by decide +kernel
theorem dX4_giveBack_0 : decode cX4_giveBack 0 = .ok (.aload_n 0, 1) := by decide +kernel
theorem dX4_giveBack_1 : decode cX4_giveBack 1 = .ok (.getfield 13, 3) := by decide +kernel
theorem dX4_giveBack_4 : decode cX4_giveBack 4 = .ok (.aload_n 0, 1) := by decide +kernel
theorem dX4_giveBack_5 : decode cX4_giveBack 5 = .ok (.bipush 15, 2) := by decide +kernel
theorem dX4_giveBack_7 : decode cX4_giveBack 7 = .ok (.invokevirtual 128, 3) := by decide +kernel
theorem dX4_giveBack_10 : decode cX4_giveBack 10 = .ok (.invokevirtual 25, 3) := by decide +kernel
theorem dX4_giveBack_13 : decode cX4_giveBack 13 = .ok (.istore_n 1, 1) := by decide +kernel
theorem dX4_giveBack_14 : decode cX4_giveBack 14 = .ok (.aload_n 0, 1) := by decide +kernel
theorem dX4_giveBack_15 : decode cX4_giveBack 15 = .ok (.getfield 13, 3) := by decide +kernel
theorem dX4_giveBack_18 : decode cX4_giveBack 18 = .ok (.aload_n 0, 1) := by decide +kernel
theorem dX4_giveBack_19 : decode cX4_giveBack 19 = .ok (.bipush 14, 2) := by decide +kernel
theorem dX4_giveBack_21 : decode cX4_giveBack 21 = .ok (.invokevirtual 128, 3) := by decide +kernel
theorem dX4_giveBack_24 : decode cX4_giveBack 24 = .ok (.invokevirtual 25, 3) := by decide +kernel
theorem dX4_giveBack_27 : decode cX4_giveBack 27 = .ok (.istore_n 2, 1) := by decide +kernel
theorem dX4_giveBack_28 : decode cX4_giveBack 28 = .ok (.aload_n 0, 1) := by decide +kernel
theorem dX4_giveBack_29 : decode cX4_giveBack 29 = .ok (.getfield 13, 3) := by decide +kernel
theorem dX4_giveBack_32 : decode cX4_giveBack 32 = .ok (.aload_n 0, 1) := by decide +kernel
theorem dX4_giveBack_33 : decode cX4_giveBack 33 = .ok (.bipush 13, 2) := by decide +kernel
theorem dX4_giveBack_35 : decode cX4_giveBack 35 = .ok (.invokevirtual 128, 3) := by decide +kernel
theorem dX4_giveBack_38 : decode cX4_giveBack 38 = .ok (.invokevirtual 25, 3) := by decide +kernel
theorem dX4_giveBack_41 : decode cX4_giveBack 41 = .ok (.istore_n 3, 1) := by decide +kernel
theorem dX4_giveBack_42 : decode cX4_giveBack 42 = .ok (.aload_n 0, 1) := by decide +kernel
theorem dX4_giveBack_43 : decode cX4_giveBack 43 = .ok (.iload_n 1, 1) := by decide +kernel
theorem dX4_giveBack_44 : decode cX4_giveBack 44 = .ok (.ldc 157, 2) := by decide +kernel
theorem dX4_giveBack_46 : decode cX4_giveBack 46 = .ok (.iand, 1) := by decide +kernel
theorem dX4_giveBack_47 : decode cX4_giveBack 47 = .ok (.putfield 38, 3) := by decide +kernel
theorem dX4_giveBack_50 : decode cX4_giveBack 50 = .ok (.aload_n 0, 1) := by decide +kernel
theorem dX4_giveBack_51 : decode cX4_giveBack 51 = .ok (.iload_n 2, 1) := by decide +kernel
theorem dX4_giveBack_52 : decode cX4_giveBack 52 = .ok (.ldc 31, 2) := by decide +kernel
theorem dX4_giveBack_54 : decode cX4_giveBack 54 = .ok (.iand, 1) := by decide +kernel
theorem dX4_giveBack_55 : decode cX4_giveBack 55 = .ok (.putfield 35, 3) := by decide +kernel
theorem dX4_giveBack_58 : decode cX4_giveBack 58 = .ok (.aload_n 0, 1) := by decide +kernel
theorem dX4_giveBack_59 : decode cX4_giveBack 59 = .ok (.iload_n 3, 1) := by decide +kernel
theorem dX4_giveBack_60 : decode cX4_giveBack 60 = .ok (.ldc 31, 2) := by decide +kernel
theorem dX4_giveBack_62 : decode cX4_giveBack 62 = .ok (.iand, 1) := by decide +kernel
theorem dX4_giveBack_63 : decode cX4_giveBack 63 = .ok (.putfield 32, 3) := by decide +kernel
theorem dX4_giveBack_66 : decode cX4_giveBack 66 = .ok (.return_, 1) := by decide +kernel
theorem dX4_doOneOperand_0 : decode cX4_doOneOperand 0 = .ok (.aload_n 0, 1) := by decide +kernel
theorem dX4_doOneOperand_1 : decode cX4_doOneOperand 1 = .ok (.iload_n 1, 1) := by decide +kernel
theorem dX4_doOneOperand_2 : decode cX4_doOneOperand 2 = .ok (.iconst 0, 1) := by decide +kernel
theorem dX4_doOneOperand_3 : decode cX4_doOneOperand 3 = .ok (.invokevirtual 89, 3) := by decide +kernel
theorem dX4_doOneOperand_6 : decode cX4_doOneOperand 6 = .ok (.istore_n 2, 1) := by decide +kernel
theorem dX4_doOneOperand_7 : decode cX4_doOneOperand 7 = .ok (.iload_n 1, 1) := by decide +kernel
theorem dX4_doOneOperand_8 : decode cX4_doOneOperand 8 = .ok (.ldc 93, 2) := by decide +kernel
theorem dX4_doOneOperand_10 : decode cX4_doOneOperand 10 = .ok (.iand, 1) := by decide +kernel
theorem dX4_doOneOperand_11 : decode cX4_doOneOperand 11 = .ok (.istore_n 3, 1) := by decide +kernel
theorem dX4_doOneOperand_12 : decode cX4_doOneOperand 12 = .ok (.iload_n 3, 1) := by decide +kernel
theorem dX4_doOneOperand_13 : decode cX4_doOneOperand 13 = .ok (.lookupswitch 82 #[(1024, 35), (1088, 43), (1664, 54)], 35) := by decide +kernel
theorem dX4_doOneOperand_48 : decode cX4_doOneOperand 48 = .ok (.aload_n 0, 1) := by decide +kernel
theorem dX4_doOneOperand_49 : decode cX4_doOneOperand 49 = .ok (.iload_n 2, 1) := by decide +kernel
theorem dX4_doOneOperand_50 : decode cX4_doOneOperand 50 = .ok (.invokevirtual 59, 3) := by decide +kernel
theorem dX4_doOneOperand_53 : decode cX4_doOneOperand 53 = .ok (.goto 63, 3) := by decide +kernel
theorem dX4_doOneOperand_56 : decode cX4_doOneOperand 56 = .ok (.aload_n 0, 1) := by decide +kernel
theorem dX4_doOneOperand_57 : decode cX4_doOneOperand 57 = .ok (.iload_n 2, 1) := by decide +kernel
theorem dX4_doOneOperand_58 : decode cX4_doOneOperand 58 = .ok (.ldc 31, 2) := by decide +kernel
theorem dX4_doOneOperand_60 : decode cX4_doOneOperand 60 = .ok (.iand, 1) := by decide +kernel
theorem dX4_doOneOperand_61 : decode cX4_doOneOperand 61 = .ok (.putfield 35, 3) := by decide +kernel
theorem dX4_doOneOperand_64 : decode cX4_doOneOperand 64 = .ok (.goto 52, 3) := by decide +kernel
theorem dX4_doOneOperand_67 : decode cX4_doOneOperand 67 = .ok (.aload_n 0, 1) := by decide +kernel
theorem dX4_doOneOperand_68 : decode cX4_doOneOperand 68 = .ok (.getfield 13, 3) := by decide +kernel
theorem dX4_doOneOperand_71 : decode cX4_doOneOperand 71 = .ok (.aload_n 0, 1) := by decide +kernel
theorem dX4_doOneOperand_72 : decode cX4_doOneOperand 72 = .ok (.bipush 11, 2) := by decide +kernel
theorem dX4_doOneOperand_74 : decode cX4_doOneOperand 74 = .ok (.invokevirtual 128, 3) := by decide +kernel
theorem dX4_doOneOperand_77 : decode cX4_doOneOperand 77 = .ok (.aload_n 0, 1) := by decide +kernel
theorem dX4_doOneOperand_78 : decode cX4_doOneOperand 78 = .ok (.getfield 35, 3) := by decide +kernel
theorem dX4_doOneOperand_81 : decode cX4_doOneOperand 81 = .ok (.invokevirtual 131, 3) := by decide +kernel
theorem dX4_doOneOperand_84 : decode cX4_doOneOperand 84 = .ok (.aload_n 0, 1) := by decide +kernel
theorem dX4_doOneOperand_85 : decode cX4_doOneOperand 85 = .ok (.iload_n 2, 1) := by decide +kernel
theorem dX4_doOneOperand_86 : decode cX4_doOneOperand 86 = .ok (.ldc 31, 2) := by decide +kernel
theorem dX4_doOneOperand_88 : decode cX4_doOneOperand 88 = .ok (.iand, 1) := by decide +kernel
theorem dX4_doOneOperand_89 : decode cX4_doOneOperand 89 = .ok (.putfield 35, 3) := by decide +kernel
theorem dX4_doOneOperand_92 : decode cX4_doOneOperand 92 = .ok (.goto 24, 3) := by decide +kernel
theorem dX4_doOneOperand_95 : decode cX4_doOneOperand 95 = .ok (.aload_n 0, 1) := by decide +kernel
theorem dX4_doOneOperand_96 : decode cX4_doOneOperand 96 = .ok (.getfield 13, 3) := by decide +kernel
theorem dX4_doOneOperand_99 : decode cX4_doOneOperand 99 = .ok (.iload_n 2, 1) := by decide +kernel
theorem dX4_doOneOperand_100 : decode cX4_doOneOperand 100 = .ok (.aload_n 0, 1) := by decide +kernel
theorem dX4_doOneOperand_101 : decode cX4_doOneOperand 101 = .ok (.iload_n 3, 1) := by decide +kernel
theorem dX4_doOneOperand_102 : decode cX4_doOneOperand 102 = .ok (.aload_n 0, 1) := by decide +kernel
theorem dX4_doOneOperand_103 : decode cX4_doOneOperand 103 = .ok (.getfield 13, 3) := by decide +kernel
theorem dX4_doOneOperand_106 : decode cX4_doOneOperand 106 = .ok (.iload_n 2, 1) := by decide +kernel
theorem dX4_doOneOperand_107 : decode cX4_doOneOperand 107 = .ok (.invokevirtual 25, 3) := by decide +kernel
theorem dX4_doOneOperand_110 : decode cX4_doOneOperand 110 = .ok (.invokevirtual 158, 3) := by decide +kernel
theorem dX4_doOneOperand_113 : decode cX4_doOneOperand 113 = .ok (.invokevirtual 131, 3) := by decide +kernel
theorem dX4_doOneOperand_116 : decode cX4_doOneOperand 116 = .ok (.return_, 1) := by decide +kernel
theorem dX4_changed_0 : decode cX4_changed 0 = .ok (.iload_n 1, 1) := by decide +kernel
theorem dX4_changed_1 : decode cX4_changed 1 = .ok (.lookupswitch 163 #[(1216, 91), (1280, 93), (1344, 101), (1408, 107), (1472, 115), (1536, 123), (1600, 132), (1728, 141), (1792, 154), (1856, 157)], 91) := by decide +kernel
theorem dX4_changed_92 : decode cX4_changed 92 = .ok (.iconst 0, 1) := by decide +kernel
theorem dX4_changed_93 : decode cX4_changed 93 = .ok (.ireturn, 1) := by decide +kernel
theorem dX4_changed_94 : decode cX4_changed 94 = .ok (.aload_n 0, 1) := by decide +kernel
theorem dX4_changed_95 : decode cX4_changed 95 = .ok (.iconst 0, 1) := by decide +kernel
theorem dX4_changed_96 : decode cX4_changed 96 = .ok (.iload_n 2, 1) := by decide +kernel
theorem dX4_changed_97 : decode cX4_changed 97 = .ok (.iconst 0, 1) := by decide +kernel
theorem dX4_changed_98 : decode cX4_changed 98 = .ok (.invokevirtual 162, 3) := by decide +kernel
theorem dX4_changed_101 : decode cX4_changed 101 = .ok (.ireturn, 1) := by decide +kernel
theorem dX4_changed_102 : decode cX4_changed 102 = .ok (.aload_n 0, 1) := by decide +kernel
theorem dX4_changed_103 : decode cX4_changed 103 = .ok (.iload_n 2, 1) := by decide +kernel
theorem dX4_changed_104 : decode cX4_changed 104 = .ok (.invokevirtual 165, 3) := by decide +kernel
theorem dX4_changed_107 : decode cX4_changed 107 = .ok (.ireturn, 1) := by decide +kernel
theorem dX4_changed_108 : decode cX4_changed 108 = .ok (.aload_n 0, 1) := by decide +kernel
theorem dX4_changed_109 : decode cX4_changed 109 = .ok (.iload_n 2, 1) := by decide +kernel
theorem dX4_changed_110 : decode cX4_changed 110 = .ok (.iconst 1, 1) := by decide +kernel
theorem dX4_changed_111 : decode cX4_changed 111 = .ok (.iconst 0, 1) := by decide +kernel
theorem dX4_changed_112 : decode cX4_changed 112 = .ok (.invokevirtual 150, 3) := by decide +kernel
theorem dX4_changed_115 : decode cX4_changed 115 = .ok (.ireturn, 1) := by decide +kernel
theorem dX4_changed_116 : decode cX4_changed 116 = .ok (.aload_n 0, 1) := by decide +kernel
theorem dX4_changed_117 : decode cX4_changed 117 = .ok (.iload_n 2, 1) := by decide +kernel
theorem dX4_changed_118 : decode cX4_changed 118 = .ok (.iconst 2, 1) := by decide +kernel
theorem dX4_changed_119 : decode cX4_changed 119 = .ok (.iconst 0, 1) := by decide +kernel
theorem dX4_changed_120 : decode cX4_changed 120 = .ok (.invokevirtual 150, 3) := by decide +kernel
theorem dX4_changed_123 : decode cX4_changed 123 = .ok (.ireturn, 1) := by decide +kernel
theorem dX4_changed_124 : decode cX4_changed 124 = .ok (.aload_n 0, 1) := by decide +kernel
theorem dX4_changed_125 : decode cX4_changed 125 = .ok (.iload_n 2, 1) := by decide +kernel
theorem dX4_changed_126 : decode cX4_changed 126 = .ok (.ldc 127, 2) := by decide +kernel
theorem dX4_changed_128 : decode cX4_changed 128 = .ok (.iconst 0, 1) := by decide +kernel
theorem dX4_changed_129 : decode cX4_changed 129 = .ok (.invokevirtual 150, 3) := by decide +kernel
theorem dX4_changed_132 : decode cX4_changed 132 = .ok (.ireturn, 1) := by decide +kernel
theorem dX4_changed_133 : decode cX4_changed 133 = .ok (.aload_n 0, 1) := by decide +kernel
theorem dX4_changed_134 : decode cX4_changed 134 = .ok (.iload_n 2, 1) := by decide +kernel
theorem dX4_changed_135 : decode cX4_changed 135 = .ok (.ldc 31, 2) := by decide +kernel
theorem dX4_changed_137 : decode cX4_changed 137 = .ok (.iconst 0, 1) := by decide +kernel
theorem dX4_changed_138 : decode cX4_changed 138 = .ok (.invokevirtual 150, 3) := by decide +kernel
theorem dX4_changed_141 : decode cX4_changed 141 = .ok (.ireturn, 1) := by decide +kernel
theorem dX4_changed_142 : decode cX4_changed 142 = .ok (.iload_n 2, 1) := by decide +kernel
theorem dX4_changed_143 : decode cX4_changed 143 = .ok (.bipush 8, 2) := by decide +kernel
theorem dX4_changed_145 : decode cX4_changed 145 = .ok (.ishl, 1) := by decide +kernel
theorem dX4_changed_146 : decode cX4_changed 146 = .ok (.iload_n 2, 1) := by decide +kernel
theorem dX4_changed_147 : decode cX4_changed 147 = .ok (.bipush 8, 2) := by decide +kernel
theorem dX4_changed_149 : decode cX4_changed 149 = .ok (.ishr, 1) := by decide +kernel
theorem dX4_changed_150 : decode cX4_changed 150 = .ok (.ior, 1) := by decide +kernel
theorem dX4_changed_151 : decode cX4_changed 151 = .ok (.ldc 127, 2) := by decide +kernel
theorem dX4_changed_153 : decode cX4_changed 153 = .ok (.iand, 1) := by decide +kernel
theorem dX4_changed_154 : decode cX4_changed 154 = .ok (.ireturn, 1) := by decide +kernel
theorem dX4_changed_155 : decode cX4_changed 155 = .ok (.ldc 127, 2) := by decide +kernel
theorem dX4_changed_157 : decode cX4_changed 157 = .ok (.ireturn, 1) := by decide +kernel
theorem dX4_changed_158 : decode cX4_changed 158 = .ok (.aload_n 0, 1) := by decide +kernel
theorem dX4_changed_159 : decode cX4_changed 159 = .ok (.iload_n 2, 1) := by decide +kernel
theorem dX4_changed_160 : decode cX4_changed 160 = .ok (.invokevirtual 168, 3) := by decide +kernel
theorem dX4_changed_163 : decode cX4_changed 163 = .ok (.ireturn, 1) := by decide +kernel
theorem dX4_changed_164 : decode cX4_changed 164 = .ok (.iload_n 2, 1) := by decide +kernel
theorem dX4_changed_165 : decode cX4_changed 165 = .ok (.ireturn, 1) := by decide +kernel
theorem dX4_inverted_0 : decode cX4_inverted 0 = .ok (.iload_n 1, 1) := by decide +kernel
theorem dX4_inverted_1 : decode cX4_inverted 1 = .ok (.iconst (-1), 1) := by decide +kernel
theorem dX4_inverted_2 : decode cX4_inverted 2 = .ok (.ixor, 1) := by decide +kernel
theorem dX4_inverted_3 : decode cX4_inverted 3 = .ok (.ldc 127, 2) := by decide +kernel
theorem dX4_inverted_5 : decode cX4_inverted 5 = .ok (.iand, 1) := by decide +kernel
theorem dX4_inverted_6 : decode cX4_inverted 6 = .ok (.istore_n 2, 1) := by decide +kernel
theorem dX4_inverted_7 : decode cX4_inverted 7 = .ok (.aload_n 0, 1) := by decide +kernel
theorem dX4_inverted_8 : decode cX4_inverted 8 = .ok (.iload_n 2, 1) := by decide +kernel
theorem dX4_inverted_9 : decode cX4_inverted 9 = .ok (.iconst 0, 1) := by decide +kernel
theorem dX4_inverted_10 : decode cX4_inverted 10 = .ok (.iconst 0, 1) := by decide +kernel
theorem dX4_inverted_11 : decode cX4_inverted 11 = .ok (.invokevirtual 145, 3) := by decide +kernel
theorem dX4_inverted_14 : decode cX4_inverted 14 = .ok (.iload_n 2, 1) := by decide +kernel
theorem dX4_inverted_15 : decode cX4_inverted 15 = .ok (.ireturn, 1) := by decide +kernel
theorem dX4_sizeOf_0 : decode cX4_sizeOf 0 = .ok (.aload_n 0, 1) := by decide +kernel
theorem dX4_sizeOf_1 : decode cX4_sizeOf 1 = .ok (.iload_n 1, 1) := by decide +kernel
theorem dX4_sizeOf_2 : decode cX4_sizeOf 2 = .ok (.iconst 0, 1) := by decide +kernel
theorem dX4_sizeOf_3 : decode cX4_sizeOf 3 = .ok (.iconst 0, 1) := by decide +kernel
theorem dX4_sizeOf_4 : decode cX4_sizeOf 4 = .ok (.invokevirtual 145, 3) := by decide +kernel
theorem dX4_sizeOf_7 : decode cX4_sizeOf 7 = .ok (.aload_n 0, 1) := by decide +kernel
theorem dX4_sizeOf_8 : decode cX4_sizeOf 8 = .ok (.sipush 4096, 3) := by decide +kernel
theorem dX4_sizeOf_11 : decode cX4_sizeOf 11 = .ok (.iconst 0, 1) := by decide +kernel
theorem dX4_sizeOf_12 : decode cX4_sizeOf 12 = .ok (.invokevirtual 136, 3) := by decide +kernel
theorem dX4_sizeOf_15 : decode cX4_sizeOf 15 = .ok (.aload_n 0, 1) := by decide +kernel
theorem dX4_sizeOf_16 : decode cX4_sizeOf 16 = .ok (.sipush 2048, 3) := by decide +kernel
theorem dX4_sizeOf_19 : decode cX4_sizeOf 19 = .ok (.iload_n 1, 1) := by decide +kernel
theorem dX4_sizeOf_20 : decode cX4_sizeOf 20 = .ok (.ldc 135, 2) := by decide +kernel
theorem dX4_sizeOf_22 : decode cX4_sizeOf 22 = .ok (.if_icmp .ne 7, 3) := by decide +kernel
theorem dX4_sizeOf_25 : decode cX4_sizeOf 25 = .ok (.iconst 1, 1) := by decide +kernel
theorem dX4_sizeOf_26 : decode cX4_sizeOf 26 = .ok (.goto 4, 3) := by decide +kernel
theorem dX4_sizeOf_29 : decode cX4_sizeOf 29 = .ok (.iconst 0, 1) := by decide +kernel
theorem dX4_sizeOf_30 : decode cX4_sizeOf 30 = .ok (.invokevirtual 136, 3) := by decide +kernel
theorem dX4_sizeOf_33 : decode cX4_sizeOf 33 = .ok (.iload_n 1, 1) := by decide +kernel
theorem dX4_sizeOf_34 : decode cX4_sizeOf 34 = .ok (.ldc 135, 2) := by decide +kernel
theorem dX4_sizeOf_36 : decode cX4_sizeOf 36 = .ok (.if_icmp .lt 11, 3) := by decide +kernel
theorem dX4_sizeOf_39 : decode cX4_sizeOf 39 = .ok (.iload_n 1, 1) := by decide +kernel
theorem dX4_sizeOf_40 : decode cX4_sizeOf 40 = .ok (.ineg, 1) := by decide +kernel
theorem dX4_sizeOf_41 : decode cX4_sizeOf 41 = .ok (.ldc 127, 2) := by decide +kernel
theorem dX4_sizeOf_43 : decode cX4_sizeOf 43 = .ok (.iand, 1) := by decide +kernel
theorem dX4_sizeOf_44 : decode cX4_sizeOf 44 = .ok (.goto 4, 3) := by decide +kernel
theorem dX4_sizeOf_47 : decode cX4_sizeOf 47 = .ok (.iload_n 1, 1) := by decide +kernel
theorem dX4_sizeOf_48 : decode cX4_sizeOf 48 = .ok (.ireturn, 1) := by decide +kernel
theorem dX4_doShift_0 : decode cX4_doShift 0 = .ok (.iload_n 1, 1) := by decide +kernel
theorem dX4_doShift_1 : decode cX4_doShift 1 = .ok (.ldc 171, 2) := by decide +kernel
theorem dX4_doShift_3 : decode cX4_doShift 3 = .ok (.iand, 1) := by decide +kernel
theorem dX4_doShift_4 : decode cX4_doShift 4 = .ok (.istore_n 2, 1) := by decide +kernel
theorem dX4_doShift_5 : decode cX4_doShift 5 = .ok (.aload_n 0, 1) := by decide +kernel
theorem dX4_doShift_6 : decode cX4_doShift 6 = .ok (.iload_n 1, 1) := by decide +kernel
theorem dX4_doShift_7 : decode cX4_doShift 7 = .ok (.bipush 15, 2) := by decide +kernel
theorem dX4_doShift_9 : decode cX4_doShift 9 = .ok (.iand, 1) := by decide +kernel
theorem dX4_doShift_10 : decode cX4_doShift 10 = .ok (.invokevirtual 128, 3) := by decide +kernel
theorem dX4_doShift_13 : decode cX4_doShift 13 = .ok (.istore_n 3, 1) := by decide +kernel
theorem dX4_doShift_14 : decode cX4_doShift 14 = .ok (.aload_n 0, 1) := by decide +kernel
theorem dX4_doShift_15 : decode cX4_doShift 15 = .ok (.getfield 13, 3) := by decide +kernel
theorem dX4_doShift_18 : decode cX4_doShift 18 = .ok (.iload_n 3, 1) := by decide +kernel
theorem dX4_doShift_19 : decode cX4_doShift 19 = .ok (.invokevirtual 25, 3) := by decide +kernel
theorem dX4_doShift_22 : decode cX4_doShift 22 = .ok (.istore 4, 2) := by decide +kernel
theorem dX4_doShift_24 : decode cX4_doShift 24 = .ok (.iload_n 1, 1) := by decide +kernel
theorem dX4_doShift_25 : decode cX4_doShift 25 = .ok (.iconst 4, 1) := by decide +kernel
theorem dX4_doShift_26 : decode cX4_doShift 26 = .ok (.ishr, 1) := by decide +kernel
theorem dX4_doShift_27 : decode cX4_doShift 27 = .ok (.bipush 15, 2) := by decide +kernel
theorem dX4_doShift_29 : decode cX4_doShift 29 = .ok (.iand, 1) := by decide +kernel
theorem dX4_doShift_30 : decode cX4_doShift 30 = .ok (.istore 5, 2) := by decide +kernel
theorem dX4_doShift_32 : decode cX4_doShift 32 = .ok (.iload 5, 2) := by decide +kernel
theorem dX4_doShift_34 : decode cX4_doShift 34 = .ok (.ifCond .ne 19, 3) := by decide +kernel
theorem dX4_doShift_37 : decode cX4_doShift 37 = .ok (.aload_n 0, 1) := by decide +kernel
theorem dX4_doShift_38 : decode cX4_doShift 38 = .ok (.getfield 13, 3) := by decide +kernel
theorem dX4_doShift_41 : decode cX4_doShift 41 = .ok (.aload_n 0, 1) := by decide +kernel
theorem dX4_doShift_42 : decode cX4_doShift 42 = .ok (.getfield 32, 3) := by decide +kernel
theorem dX4_doShift_45 : decode cX4_doShift 45 = .ok (.invokevirtual 25, 3) := by decide +kernel
theorem dX4_doShift_48 : decode cX4_doShift 48 = .ok (.bipush 15, 2) := by decide +kernel
theorem dX4_doShift_50 : decode cX4_doShift 50 = .ok (.iand, 1) := by decide +kernel
theorem dX4_doShift_51 : decode cX4_doShift 51 = .ok (.istore 5, 2) := by decide +kernel
theorem dX4_doShift_53 : decode cX4_doShift 53 = .ok (.iload 5, 2) := by decide +kernel
theorem dX4_doShift_55 : decode cX4_doShift 55 = .ok (.ifCond .ne 7, 3) := by decide +kernel
theorem dX4_doShift_58 : decode cX4_doShift 58 = .ok (.bipush 16, 2) := by decide +kernel
theorem dX4_doShift_60 : decode cX4_doShift 60 = .ok (.istore 5, 2) := by decide +kernel
theorem dX4_doShift_62 : decode cX4_doShift 62 = .ok (.iconst 0, 1) := by decide +kernel
theorem dX4_doShift_63 : decode cX4_doShift 63 = .ok (.istore 6, 2) := by decide +kernel
theorem dX4_doShift_65 : decode cX4_doShift 65 = .ok (.iconst 0, 1) := by decide +kernel
theorem dX4_doShift_66 : decode cX4_doShift 66 = .ok (.istore 7, 2) := by decide +kernel
theorem dX4_doShift_68 : decode cX4_doShift 68 = .ok (.iconst 0, 1) := by decide +kernel
theorem dX4_doShift_69 : decode cX4_doShift 69 = .ok (.istore 8, 2) := by decide +kernel
theorem dX4_doShift_71 : decode cX4_doShift 71 = .ok (.iload 8, 2) := by decide +kernel
theorem dX4_doShift_73 : decode cX4_doShift 73 = .ok (.iload 5, 2) := by decide +kernel
theorem dX4_doShift_75 : decode cX4_doShift 75 = .ok (.if_icmp .ge 63, 3) := by decide +kernel
theorem dX4_doShift_78 : decode cX4_doShift 78 = .ok (.iload_n 2, 1) := by decide +kernel
theorem dX4_doShift_79 : decode cX4_doShift 79 = .ok (.sipush 2560, 3) := by decide +kernel
theorem dX4_doShift_82 : decode cX4_doShift 82 = .ok (.if_icmp .ne 11, 3) := by decide +kernel
theorem dX4_doShift_85 : decode cX4_doShift 85 = .ok (.iload 4, 2) := by decide +kernel
theorem dX4_doShift_87 : decode cX4_doShift 87 = .ok (.bipush 15, 2) := by decide +kernel
theorem dX4_doShift_89 : decode cX4_doShift 89 = .ok (.ishr, 1) := by decide +kernel
theorem dX4_doShift_90 : decode cX4_doShift 90 = .ok (.goto 7, 3) := by decide +kernel
theorem dX4_doShift_93 : decode cX4_doShift 93 = .ok (.iload 4, 2) := by decide +kernel
theorem dX4_doShift_95 : decode cX4_doShift 95 = .ok (.iconst 1, 1) := by decide +kernel
theorem dX4_doShift_96 : decode cX4_doShift 96 = .ok (.iand, 1) := by decide +kernel
theorem dX4_doShift_97 : decode cX4_doShift 97 = .ok (.istore 7, 2) := by decide +kernel
theorem dX4_doShift_99 : decode cX4_doShift 99 = .ok (.iload_n 2, 1) := by decide +kernel
theorem dX4_doShift_100 : decode cX4_doShift 100 = .ok (.iload 4, 2) := by decide +kernel
theorem dX4_doShift_102 : decode cX4_doShift 102 = .ok (.invokestatic 172, 3) := by decide +kernel
theorem dX4_doShift_105 : decode cX4_doShift 105 = .ok (.istore 9, 2) := by decide +kernel
theorem dX4_doShift_107 : decode cX4_doShift 107 = .ok (.iload 6, 2) := by decide +kernel
theorem dX4_doShift_109 : decode cX4_doShift 109 = .ok (.iload 9, 2) := by decide +kernel
theorem dX4_doShift_111 : decode cX4_doShift 111 = .ok (.iload 4, 2) := by decide +kernel
theorem dX4_doShift_113 : decode cX4_doShift 113 = .ok (.ixor, 1) := by decide +kernel
theorem dX4_doShift_114 : decode cX4_doShift 114 = .ok (.ldc 135, 2) := by decide +kernel
theorem dX4_doShift_116 : decode cX4_doShift 116 = .ok (.iand, 1) := by decide +kernel
theorem dX4_doShift_117 : decode cX4_doShift 117 = .ok (.ifCond .eq 7, 3) := by decide +kernel
theorem dX4_doShift_120 : decode cX4_doShift 120 = .ok (.iconst 1, 1) := by decide +kernel
theorem dX4_doShift_121 : decode cX4_doShift 121 = .ok (.goto 4, 3) := by decide +kernel
theorem dX4_doShift_124 : decode cX4_doShift 124 = .ok (.iconst 0, 1) := by decide +kernel
theorem dX4_doShift_125 : decode cX4_doShift 125 = .ok (.ior, 1) := by decide +kernel
theorem dX4_doShift_126 : decode cX4_doShift 126 = .ok (.istore 6, 2) := by decide +kernel
theorem dX4_doShift_128 : decode cX4_doShift 128 = .ok (.iload 9, 2) := by decide +kernel
theorem dX4_doShift_130 : decode cX4_doShift 130 = .ok (.istore 4, 2) := by decide +kernel
theorem dX4_doShift_132 : decode cX4_doShift 132 = .ok (.iinc 8 1, 3) := by decide +kernel
theorem dX4_doShift_135 : decode cX4_doShift 135 = .ok (.goto (-64), 3) := by decide +kernel
theorem dX4_doShift_138 : decode cX4_doShift 138 = .ok (.aload_n 0, 1) := by decide +kernel
theorem dX4_doShift_139 : decode cX4_doShift 139 = .ok (.iload 4, 2) := by decide +kernel
theorem dX4_doShift_141 : decode cX4_doShift 141 = .ok (.iconst 0, 1) := by decide +kernel
theorem dX4_doShift_142 : decode cX4_doShift 142 = .ok (.iconst 0, 1) := by decide +kernel
theorem dX4_doShift_143 : decode cX4_doShift 143 = .ok (.invokevirtual 145, 3) := by decide +kernel
theorem dX4_doShift_146 : decode cX4_doShift 146 = .ok (.aload_n 0, 1) := by decide +kernel
theorem dX4_doShift_147 : decode cX4_doShift 147 = .ok (.sipush 4096, 3) := by decide +kernel
theorem dX4_doShift_150 : decode cX4_doShift 150 = .ok (.iload 7, 2) := by decide +kernel
theorem dX4_doShift_152 : decode cX4_doShift 152 = .ok (.iconst 1, 1) := by decide +kernel
theorem dX4_doShift_153 : decode cX4_doShift 153 = .ok (.if_icmp .ne 7, 3) := by decide +kernel
theorem dX4_doShift_156 : decode cX4_doShift 156 = .ok (.iconst 1, 1) := by decide +kernel
theorem dX4_doShift_157 : decode cX4_doShift 157 = .ok (.goto 4, 3) := by decide +kernel
theorem dX4_doShift_160 : decode cX4_doShift 160 = .ok (.iconst 0, 1) := by decide +kernel
theorem dX4_doShift_161 : decode cX4_doShift 161 = .ok (.invokevirtual 136, 3) := by decide +kernel
theorem dX4_doShift_164 : decode cX4_doShift 164 = .ok (.iload_n 2, 1) := by decide +kernel
theorem dX4_doShift_165 : decode cX4_doShift 165 = .ok (.sipush 2560, 3) := by decide +kernel
theorem dX4_doShift_168 : decode cX4_doShift 168 = .ok (.if_icmp .ne 12, 3) := by decide +kernel
theorem dX4_doShift_171 : decode cX4_doShift 171 = .ok (.aload_n 0, 1) := by decide +kernel
theorem dX4_doShift_172 : decode cX4_doShift 172 = .ok (.sipush 2048, 3) := by decide +kernel
theorem dX4_doShift_175 : decode cX4_doShift 175 = .ok (.iload 6, 2) := by decide +kernel
theorem dX4_doShift_177 : decode cX4_doShift 177 = .ok (.invokevirtual 136, 3) := by decide +kernel
theorem dX4_doShift_180 : decode cX4_doShift 180 = .ok (.aload_n 0, 1) := by decide +kernel
theorem dX4_doShift_181 : decode cX4_doShift 181 = .ok (.getfield 13, 3) := by decide +kernel
theorem dX4_doShift_184 : decode cX4_doShift 184 = .ok (.iload_n 3, 1) := by decide +kernel
theorem dX4_doShift_185 : decode cX4_doShift 185 = .ok (.iload 4, 2) := by decide +kernel
theorem dX4_doShift_187 : decode cX4_doShift 187 = .ok (.invokevirtual 131, 3) := by decide +kernel
theorem dX4_doShift_190 : decode cX4_doShift 190 = .ok (.return_, 1) := by decide +kernel
theorem dX4_shifted_0 : decode cX4_shifted 0 = .ok (.iload_n 0, 1) := by decide +kernel
theorem dX4_shifted_1 : decode cX4_shifted 1 = .ok (.lookupswitch 55 #[(2048, 35), (2304, 44), (2560, 48)], 35) := by decide +kernel
theorem dX4_shifted_36 : decode cX4_shifted 36 = .ok (.iload_n 1, 1) := by decide +kernel
theorem dX4_shifted_37 : decode cX4_shifted 37 = .ok (.iconst 1, 1) := by decide +kernel
theorem dX4_shifted_38 : decode cX4_shifted 38 = .ok (.ishr, 1) := by decide +kernel
theorem dX4_shifted_39 : decode cX4_shifted 39 = .ok (.iload_n 1, 1) := by decide +kernel
theorem dX4_shifted_40 : decode cX4_shifted 40 = .ok (.ldc 135, 2) := by decide +kernel
theorem dX4_shifted_42 : decode cX4_shifted 42 = .ok (.iand, 1) := by decide +kernel
theorem dX4_shifted_43 : decode cX4_shifted 43 = .ok (.ior, 1) := by decide +kernel
theorem dX4_shifted_44 : decode cX4_shifted 44 = .ok (.ireturn, 1) := by decide +kernel
theorem dX4_shifted_45 : decode cX4_shifted 45 = .ok (.iload_n 1, 1) := by decide +kernel
theorem dX4_shifted_46 : decode cX4_shifted 46 = .ok (.iconst 1, 1) := by decide +kernel
theorem dX4_shifted_47 : decode cX4_shifted 47 = .ok (.ishr, 1) := by decide +kernel
theorem dX4_shifted_48 : decode cX4_shifted 48 = .ok (.ireturn, 1) := by decide +kernel
theorem dX4_shifted_49 : decode cX4_shifted 49 = .ok (.iload_n 1, 1) := by decide +kernel
theorem dX4_shifted_50 : decode cX4_shifted 50 = .ok (.iconst 1, 1) := by decide +kernel
theorem dX4_shifted_51 : decode cX4_shifted 51 = .ok (.ishl, 1) := by decide +kernel
theorem dX4_shifted_52 : decode cX4_shifted 52 = .ok (.ldc 127, 2) := by decide +kernel
theorem dX4_shifted_54 : decode cX4_shifted 54 = .ok (.iand, 1) := by decide +kernel
