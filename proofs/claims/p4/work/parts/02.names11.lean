theorem dX7_bits_103 : decode cX7_bits 103 = .ok (.invokevirtual 193, 3) := by decide +kernel
theorem dX7_bits_106 : decode cX7_bits 106 = .ok (.iload 8, 2) := by decide +kernel
theorem dX7_bits_108 : decode cX7_bits 108 = .ok (.ishl, 1) := by decide +kernel
theorem dX7_bits_109 : decode cX7_bits 109 = .ok (.ior, 1) := by decide +kernel
theorem dX7_bits_110 : decode cX7_bits 110 = .ok (.istore 6, 2) := by decide +kernel
theorem dX7_bits_112 : decode cX7_bits 112 = .ok (.iinc 8 1, 3) := by decide +kernel
theorem dX7_bits_115 : decode cX7_bits 115 = .ok (.goto (-64), 3) := by decide +kernel
theorem dX7_bits_118 : decode cX7_bits 118 = .ok (.aload_n 0, 1) := by decide +kernel
theorem dX7_bits_119 : decode cX7_bits 119 = .ok (.iload 6, 2) := by decide +kernel
theorem dX7_bits_121 : decode cX7_bits 121 = .ok (.iconst 0, 1) := by decide +kernel
theorem dX7_bits_122 : decode cX7_bits 122 = .ok (.iload 4, 2) := by decide +kernel
theorem dX7_bits_124 : decode cX7_bits 124 = .ok (.invokevirtual 151, 3) := by decide +kernel
theorem dX7_bits_127 : decode cX7_bits 127 = .ok (.iload 4, 2) := by decide +kernel
theorem dX7_bits_129 : decode cX7_bits 129 = .ok (.ifCond .eq 9, 3) := by decide +kernel
theorem dX7_bits_132 : decode cX7_bits 132 = .ok (.aload_n 0, 1) := by decide +kernel
theorem dX7_bits_133 : decode cX7_bits 133 = .ok (.iload 6, 2) := by decide +kernel
theorem dX7_bits_135 : decode cX7_bits 135 = .ok (.invokevirtual 168, 3) := by decide +kernel
theorem dX7_bits_138 : decode cX7_bits 138 = .ok (.iload_n 3, 1) := by decide +kernel
theorem dX7_bits_139 : decode cX7_bits 139 = .ok (.ifCond .ne 13, 3) := by decide +kernel
theorem dX7_bits_142 : decode cX7_bits 142 = .ok (.aload_n 0, 1) := by decide +kernel
theorem dX7_bits_143 : decode cX7_bits 143 = .ok (.iload 5, 2) := by decide +kernel
theorem dX7_bits_145 : decode cX7_bits 145 = .ok (.iload 6, 2) := by decide +kernel
theorem dX7_bits_147 : decode cX7_bits 147 = .ok (.iload 4, 2) := by decide +kernel
theorem dX7_bits_149 : decode cX7_bits 149 = .ok (.invokevirtual 171, 3) := by decide +kernel
theorem dX7_bits_152 : decode cX7_bits 152 = .ok (.return_, 1) := by decide +kernel
theorem dX7_shift_0 : decode cX7_shift 0 = .ok (.iload_n 1, 1) := by decide +kernel
theorem dX7_shift_1 : decode cX7_shift 1 = .ok (.bipush 15, 2) := by decide +kernel
theorem dX7_shift_3 : decode cX7_shift 3 = .ok (.iand, 1) := by decide +kernel
theorem dX7_shift_4 : decode cX7_shift 4 = .ok (.istore_n 2, 1) := by decide +kernel
theorem dX7_shift_5 : decode cX7_shift 5 = .ok (.iload_n 1, 1) := by decide +kernel
theorem dX7_shift_6 : decode cX7_shift 6 = .ok (.bipush 8, 2) := by decide +kernel
theorem dX7_shift_8 : decode cX7_shift 8 = .ok (.ishr, 1) := by decide +kernel
theorem dX7_shift_9 : decode cX7_shift 9 = .ok (.iconst 3, 1) := by decide +kernel
theorem dX7_shift_10 : decode cX7_shift 10 = .ok (.iand, 1) := by decide +kernel
theorem dX7_shift_11 : decode cX7_shift 11 = .ok (.istore_n 3, 1) := by decide +kernel
theorem dX7_shift_12 : decode cX7_shift 12 = .ok (.iload_n 1, 1) := by decide +kernel
theorem dX7_shift_13 : decode cX7_shift 13 = .ok (.iconst 4, 1) := by decide +kernel
theorem dX7_shift_14 : decode cX7_shift 14 = .ok (.ishr, 1) := by decide +kernel
theorem dX7_shift_15 : decode cX7_shift 15 = .ok (.bipush 15, 2) := by decide +kernel
theorem dX7_shift_17 : decode cX7_shift 17 = .ok (.iand, 1) := by decide +kernel
theorem dX7_shift_18 : decode cX7_shift 18 = .ok (.istore 4, 2) := by decide +kernel
theorem dX7_shift_20 : decode cX7_shift 20 = .ok (.iload 4, 2) := by decide +kernel
theorem dX7_shift_22 : decode cX7_shift 22 = .ok (.ifCond .ne 13, 3) := by decide +kernel
theorem dX7_shift_25 : decode cX7_shift 25 = .ok (.aload_n 0, 1) := by decide +kernel
theorem dX7_shift_26 : decode cX7_shift 26 = .ok (.iconst 0, 1) := by decide +kernel
theorem dX7_shift_27 : decode cX7_shift 27 = .ok (.invokevirtual 146, 3) := by decide +kernel
theorem dX7_shift_30 : decode cX7_shift 30 = .ok (.bipush 16, 2) := by decide +kernel
theorem dX7_shift_32 : decode cX7_shift 32 = .ok (.irem, 1) := by decide +kernel
theorem dX7_shift_33 : decode cX7_shift 33 = .ok (.istore 4, 2) := by decide +kernel
theorem dX7_shift_35 : decode cX7_shift 35 = .ok (.iload 4, 2) := by decide +kernel
theorem dX7_shift_37 : decode cX7_shift 37 = .ok (.ifCond .ne 7, 3) := by decide +kernel
theorem dX7_shift_40 : decode cX7_shift 40 = .ok (.bipush 16, 2) := by decide +kernel
theorem dX7_shift_42 : decode cX7_shift 42 = .ok (.istore 4, 2) := by decide +kernel
theorem dX7_shift_44 : decode cX7_shift 44 = .ok (.aload_n 0, 1) := by decide +kernel
theorem dX7_shift_45 : decode cX7_shift 45 = .ok (.iload_n 2, 1) := by decide +kernel
theorem dX7_shift_46 : decode cX7_shift 46 = .ok (.invokevirtual 146, 3) := by decide +kernel
theorem dX7_shift_49 : decode cX7_shift 49 = .ok (.istore 5, 2) := by decide +kernel
theorem dX7_shift_51 : decode cX7_shift 51 = .ok (.iconst 0, 1) := by decide +kernel
theorem dX7_shift_52 : decode cX7_shift 52 = .ok (.istore 6, 2) := by decide +kernel
theorem dX7_shift_54 : decode cX7_shift 54 = .ok (.iconst 0, 1) := by decide +kernel
theorem dX7_shift_55 : decode cX7_shift 55 = .ok (.istore 7, 2) := by decide +kernel
theorem dX7_shift_57 : decode cX7_shift 57 = .ok (.iconst 0, 1) := by decide +kernel
theorem dX7_shift_58 : decode cX7_shift 58 = .ok (.istore 8, 2) := by decide +kernel
theorem dX7_shift_60 : decode cX7_shift 60 = .ok (.iload 8, 2) := by decide +kernel
theorem dX7_shift_62 : decode cX7_shift 62 = .ok (.iload 4, 2) := by decide +kernel
theorem dX7_shift_64 : decode cX7_shift 64 = .ok (.if_icmp .ge 163, 3) := by decide +kernel
theorem dX7_shift_67 : decode cX7_shift 67 = .ok (.iload 5, 2) := by decide +kernel
theorem dX7_shift_69 : decode cX7_shift 69 = .ok (.istore 9, 2) := by decide +kernel
theorem dX7_shift_71 : decode cX7_shift 71 = .ok (.iload_n 3, 1) := by decide +kernel
theorem dX7_shift_72 : decode cX7_shift 72 = .ok (.iconst 2, 1) := by decide +kernel
theorem dX7_shift_73 : decode cX7_shift 73 = .ok (.if_icmp .ne 18, 3) := by decide +kernel
theorem dX7_shift_76 : decode cX7_shift 76 = .ok (.iload 5, 2) := by decide +kernel
theorem dX7_shift_78 : decode cX7_shift 78 = .ok (.ldc 52, 2) := by decide +kernel
theorem dX7_shift_80 : decode cX7_shift 80 = .ok (.if_icmp .lt 7, 3) := by decide +kernel
theorem dX7_shift_83 : decode cX7_shift 83 = .ok (.iconst 1, 1) := by decide +kernel
theorem dX7_shift_84 : decode cX7_shift 84 = .ok (.goto 20, 3) := by decide +kernel
theorem dX7_shift_87 : decode cX7_shift 87 = .ok (.iconst 0, 1) := by decide +kernel
theorem dX7_shift_88 : decode cX7_shift 88 = .ok (.goto 16, 3) := by decide +kernel
theorem dX7_shift_91 : decode cX7_shift 91 = .ok (.iload 5, 2) := by decide +kernel
theorem dX7_shift_93 : decode cX7_shift 93 = .ok (.iconst 2, 1) := by decide +kernel
theorem dX7_shift_94 : decode cX7_shift 94 = .ok (.irem, 1) := by decide +kernel
theorem dX7_shift_95 : decode cX7_shift 95 = .ok (.iconst 1, 1) := by decide +kernel
theorem dX7_shift_96 : decode cX7_shift 96 = .ok (.if_icmp .ne 7, 3) := by decide +kernel
theorem dX7_shift_99 : decode cX7_shift 99 = .ok (.iconst 1, 1) := by decide +kernel
theorem dX7_shift_100 : decode cX7_shift 100 = .ok (.goto 4, 3) := by decide +kernel
theorem dX7_shift_103 : decode cX7_shift 103 = .ok (.iconst 0, 1) := by decide +kernel
theorem dX7_shift_104 : decode cX7_shift 104 = .ok (.istore 7, 2) := by decide +kernel
theorem dX7_shift_106 : decode cX7_shift 106 = .ok (.iload_n 3, 1) := by decide +kernel
theorem dX7_shift_107 : decode cX7_shift 107 = .ok (.tableswitch 61 0 2 #[25, 40, 49], 25) := by decide +kernel
theorem dX7_shift_132 : decode cX7_shift 132 = .ok (.iload 5, 2) := by decide +kernel
theorem dX7_shift_134 : decode cX7_shift 134 = .ok (.iconst 1, 1) := by decide +kernel
theorem dX7_shift_135 : decode cX7_shift 135 = .ok (.ishr, 1) := by decide +kernel
theorem dX7_shift_136 : decode cX7_shift 136 = .ok (.iload 5, 2) := by decide +kernel
theorem dX7_shift_138 : decode cX7_shift 138 = .ok (.ldc 52, 2) := by decide +kernel
theorem dX7_shift_140 : decode cX7_shift 140 = .ok (.iand, 1) := by decide +kernel
theorem dX7_shift_141 : decode cX7_shift 141 = .ok (.ior, 1) := by decide +kernel
theorem dX7_shift_142 : decode cX7_shift 142 = .ok (.istore 5, 2) := by decide +kernel
theorem dX7_shift_144 : decode cX7_shift 144 = .ok (.goto 38, 3) := by decide +kernel
theorem dX7_shift_147 : decode cX7_shift 147 = .ok (.iload 5, 2) := by decide +kernel
theorem dX7_shift_149 : decode cX7_shift 149 = .ok (.iconst 1, 1) := by decide +kernel
theorem dX7_shift_150 : decode cX7_shift 150 = .ok (.ishr, 1) := by decide +kernel
theorem dX7_shift_151 : decode cX7_shift 151 = .ok (.istore 5, 2) := by decide +kernel
theorem dX7_shift_153 : decode cX7_shift 153 = .ok (.goto 29, 3) := by decide +kernel
theorem dX7_shift_156 : decode cX7_shift 156 = .ok (.iload 5, 2) := by decide +kernel
theorem dX7_shift_158 : decode cX7_shift 158 = .ok (.iconst 1, 1) := by decide +kernel
theorem dX7_shift_159 : decode cX7_shift 159 = .ok (.ishl, 1) := by decide +kernel
theorem dX7_shift_160 : decode cX7_shift 160 = .ok (.ldc 118, 2) := by decide +kernel
theorem dX7_shift_162 : decode cX7_shift 162 = .ok (.iand, 1) := by decide +kernel
theorem dX7_shift_163 : decode cX7_shift 163 = .ok (.istore 5, 2) := by decide +kernel
theorem dX7_shift_165 : decode cX7_shift 165 = .ok (.goto 17, 3) := by decide +kernel
theorem dX7_shift_168 : decode cX7_shift 168 = .ok (.iload 5, 2) := by decide +kernel
theorem dX7_shift_170 : decode cX7_shift 170 = .ok (.iconst 1, 1) := by decide +kernel
theorem dX7_shift_171 : decode cX7_shift 171 = .ok (.ishr, 1) := by decide +kernel
theorem dX7_shift_172 : decode cX7_shift 172 = .ok (.iload 5, 2) := by decide +kernel
theorem dX7_shift_174 : decode cX7_shift 174 = .ok (.iconst 1, 1) := by decide +kernel
theorem dX7_shift_175 : decode cX7_shift 175 = .ok (.iand, 1) := by decide +kernel
theorem dX7_shift_176 : decode cX7_shift 176 = .ok (.bipush 15, 2) := by decide +kernel
theorem dX7_shift_178 : decode cX7_shift 178 = .ok (.ishl, 1) := by decide +kernel
theorem dX7_shift_179 : decode cX7_shift 179 = .ok (.ior, 1) := by decide +kernel
theorem dX7_shift_180 : decode cX7_shift 180 = .ok (.istore 5, 2) := by decide +kernel
theorem dX7_shift_182 : decode cX7_shift 182 = .ok (.iload 6, 2) := by decide +kernel
theorem dX7_shift_184 : decode cX7_shift 184 = .ok (.ifCond .ne 30, 3) := by decide +kernel
theorem dX7_shift_187 : decode cX7_shift 187 = .ok (.iload 9, 2) := by decide +kernel
theorem dX7_shift_189 : decode cX7_shift 189 = .ok (.ldc 52, 2) := by decide +kernel
theorem dX7_shift_191 : decode cX7_shift 191 = .ok (.if_icmp .lt 7, 3) := by decide +kernel
theorem dX7_shift_194 : decode cX7_shift 194 = .ok (.iconst 1, 1) := by decide +kernel
theorem dX7_shift_195 : decode cX7_shift 195 = .ok (.goto 4, 3) := by decide +kernel
theorem dX7_shift_198 : decode cX7_shift 198 = .ok (.iconst 0, 1) := by decide +kernel
theorem dX7_shift_199 : decode cX7_shift 199 = .ok (.iload 5, 2) := by decide +kernel
theorem dX7_shift_201 : decode cX7_shift 201 = .ok (.ldc 52, 2) := by decide +kernel
theorem dX7_shift_203 : decode cX7_shift 203 = .ok (.if_icmp .lt 7, 3) := by decide +kernel
theorem dX7_shift_206 : decode cX7_shift 206 = .ok (.iconst 1, 1) := by decide +kernel
theorem dX7_shift_207 : decode cX7_shift 207 = .ok (.goto 4, 3) := by decide +kernel
theorem dX7_shift_210 : decode cX7_shift 210 = .ok (.iconst 0, 1) := by decide +kernel
theorem dX7_shift_211 : decode cX7_shift 211 = .ok (.if_icmp .eq 7, 3) := by decide +kernel
theorem dX7_shift_214 : decode cX7_shift 214 = .ok (.iconst 1, 1) := by decide +kernel
theorem dX7_shift_215 : decode cX7_shift 215 = .ok (.goto 4, 3) := by decide +kernel
theorem dX7_shift_218 : decode cX7_shift 218 = .ok (.iconst 0, 1) := by decide +kernel
theorem dX7_shift_219 : decode cX7_shift 219 = .ok (.istore 6, 2) := by decide +kernel
theorem dX7_shift_221 : decode cX7_shift 221 = .ok (.iinc 8 1, 3) := by decide +kernel
theorem dX7_shift_224 : decode cX7_shift 224 = .ok (.goto (-164), 3) := by decide +kernel
theorem dX7_shift_227 : decode cX7_shift 227 = .ok (.aload_n 0, 1) := by decide +kernel
theorem dX7_shift_228 : decode cX7_shift 228 = .ok (.sipush 4096, 3) := by decide +kernel
theorem dX7_shift_231 : decode cX7_shift 231 = .ok (.iload 7, 2) := by decide +kernel
theorem dX7_shift_233 : decode cX7_shift 233 = .ok (.invokevirtual 134, 3) := by decide +kernel
theorem dX7_shift_236 : decode cX7_shift 236 = .ok (.aload_n 0, 1) := by decide +kernel
theorem dX7_shift_237 : decode cX7_shift 237 = .ok (.iload 5, 2) := by decide +kernel
theorem dX7_shift_239 : decode cX7_shift 239 = .ok (.iconst 0, 1) := by decide +kernel
theorem dX7_shift_240 : decode cX7_shift 240 = .ok (.iconst 0, 1) := by decide +kernel
theorem dX7_shift_241 : decode cX7_shift 241 = .ok (.invokevirtual 151, 3) := by decide +kernel
theorem dX7_shift_244 : decode cX7_shift 244 = .ok (.iload_n 3, 1) := by decide +kernel
theorem dX7_shift_245 : decode cX7_shift 245 = .ok (.iconst 2, 1) := by decide +kernel
theorem dX7_shift_246 : decode cX7_shift 246 = .ok (.if_icmp .ne 12, 3) := by decide +kernel
theorem dX7_shift_249 : decode cX7_shift 249 = .ok (.aload_n 0, 1) := by decide +kernel
theorem dX7_shift_250 : decode cX7_shift 250 = .ok (.sipush 2048, 3) := by decide +kernel
theorem dX7_shift_253 : decode cX7_shift 253 = .ok (.iload 6, 2) := by decide +kernel
theorem dX7_shift_255 : decode cX7_shift 255 = .ok (.invokevirtual 134, 3) := by decide +kernel
theorem dX7_shift_258 : decode cX7_shift 258 = .ok (.aload_n 0, 1) := by decide +kernel
theorem dX7_shift_259 : decode cX7_shift 259 = .ok (.iload_n 2, 1) := by decide +kernel
theorem dX7_shift_260 : decode cX7_shift 260 = .ok (.iload 5, 2) := by decide +kernel
theorem dX7_shift_262 : decode cX7_shift 262 = .ok (.invokevirtual 149, 3) := by decide +kernel
theorem dX7_shift_265 : decode cX7_shift 265 = .ok (.return_, 1) := by decide +kernel
theorem dX7_one_0 : decode cX7_one 0 = .ok (.iload_n 1, 1) := by decide +kernel
theorem dX7_one_1 : decode cX7_one 1 = .ok (.bipush 6, 2) := by decide +kernel
theorem dX7_one_3 : decode cX7_one 3 = .ok (.ishr, 1) := by decide +kernel
theorem dX7_one_4 : decode cX7_one 4 = .ok (.bipush 15, 2) := by decide +kernel
theorem dX7_one_6 : decode cX7_one 6 = .ok (.iand, 1) := by decide +kernel
theorem dX7_one_7 : decode cX7_one 7 = .ok (.istore_n 2, 1) := by decide +kernel
theorem dX7_one_8 : decode cX7_one 8 = .ok (.aload_n 0, 1) := by decide +kernel
theorem dX7_one_9 : decode cX7_one 9 = .ok (.iload_n 1, 1) := by decide +kernel
theorem dX7_one_10 : decode cX7_one 10 = .ok (.bipush 63, 2) := by decide +kernel
theorem dX7_one_12 : decode cX7_one 12 = .ok (.iand, 1) := by decide +kernel
theorem dX7_one_13 : decode cX7_one 13 = .ok (.iconst 0, 1) := by decide +kernel
theorem dX7_one_14 : decode cX7_one 14 = .ok (.invokevirtual 155, 3) := by decide +kernel
theorem dX7_one_17 : decode cX7_one 17 = .ok (.istore_n 3, 1) := by decide +kernel
theorem dX7_one_18 : decode cX7_one 18 = .ok (.iload_n 2, 1) := by decide +kernel
theorem dX7_one_19 : decode cX7_one 19 = .ok (.lookupswitch 121 #[(0, 41), (1, 53), (2, 63), (10, 101)], 41) := by decide +kernel
theorem dX7_one_60 : decode cX7_one 60 = .ok (.aload_n 0, 1) := by decide +kernel
theorem dX7_one_61 : decode cX7_one 61 = .ok (.iload_n 3, 1) := by decide +kernel
theorem dX7_one_62 : decode cX7_one 62 = .ok (.invokevirtual 177, 3) := by decide +kernel
theorem dX7_one_65 : decode cX7_one 65 = .ok (.aload_n 0, 1) := by decide +kernel
theorem dX7_one_66 : decode cX7_one 66 = .ok (.iconst 1, 1) := by decide +kernel
theorem dX7_one_67 : decode cX7_one 67 = .ok (.putfield 180, 3) := by decide +kernel
theorem dX7_one_70 : decode cX7_one 70 = .ok (.iconst 1, 1) := by decide +kernel
theorem dX7_one_71 : decode cX7_one 71 = .ok (.ireturn, 1) := by decide +kernel
theorem dX7_one_72 : decode cX7_one 72 = .ok (.aload_n 0, 1) := by decide +kernel
theorem dX7_one_73 : decode cX7_one 73 = .ok (.iload_n 3, 1) := by decide +kernel
theorem dX7_one_74 : decode cX7_one 74 = .ok (.ldc 72, 2) := by decide +kernel
theorem dX7_one_76 : decode cX7_one 76 = .ok (.iand, 1) := by decide +kernel
theorem dX7_one_77 : decode cX7_one 77 = .ok (.putfield 128, 3) := by decide +kernel
theorem dX7_one_80 : decode cX7_one 80 = .ok (.iconst 1, 1) := by decide +kernel
theorem dX7_one_81 : decode cX7_one 81 = .ok (.ireturn, 1) := by decide +kernel
theorem dX7_one_82 : decode cX7_one 82 = .ok (.aload_n 0, 1) := by decide +kernel
theorem dX7_one_83 : decode cX7_one 83 = .ok (.iload_n 3, 1) := by decide +kernel
theorem dX7_one_84 : decode cX7_one 84 = .ok (.invokevirtual 122, 3) := by decide +kernel
theorem dX7_one_87 : decode cX7_one 87 = .ok (.istore 4, 2) := by decide +kernel
theorem dX7_one_89 : decode cX7_one 89 = .ok (.iload 4, 2) := by decide +kernel
theorem dX7_one_91 : decode cX7_one 91 = .ok (.sipush 1152, 3) := by decide +kernel
theorem dX7_one_94 : decode cX7_one 94 = .ok (.if_icmp .lt 11, 3) := by decide +kernel
theorem dX7_one_97 : decode cX7_one 97 = .ok (.iload 4, 2) := by decide +kernel
theorem dX7_one_99 : decode cX7_one 99 = .ok (.sipush 1215, 3) := by decide +kernel
theorem dX7_one_102 : decode cX7_one 102 = .ok (.if_icmp .le 16, 3) := by decide +kernel
theorem dX7_one_105 : decode cX7_one 105 = .ok (.aload_n 0, 1) := by decide +kernel
theorem dX7_one_106 : decode cX7_one 106 = .ok (.iload 4, 2) := by decide +kernel
theorem dX7_one_108 : decode cX7_one 108 = .ok (.invokevirtual 196, 3) := by decide +kernel
theorem dX7_one_111 : decode cX7_one 111 = .ok (.ifCond .eq 7, 3) := by decide +kernel
theorem dX7_one_114 : decode cX7_one 114 = .ok (.iconst 1, 1) := by decide +kernel
theorem dX7_one_115 : decode cX7_one 115 = .ok (.goto 4, 3) := by decide +kernel
theorem dX7_one_118 : decode cX7_one 118 = .ok (.iconst 0, 1) := by decide +kernel
theorem dX7_one_119 : decode cX7_one 119 = .ok (.ireturn, 1) := by decide +kernel
theorem dX7_one_120 : decode cX7_one 120 = .ok (.aload_n 0, 1) := by decide +kernel
theorem dX7_one_121 : decode cX7_one 121 = .ok (.bipush 11, 2) := by decide +kernel
theorem dX7_one_123 : decode cX7_one 123 = .ok (.aload_n 0, 1) := by decide +kernel
theorem dX7_one_124 : decode cX7_one 124 = .ok (.getfield 128, 3) := by decide +kernel
theorem dX7_one_127 : decode cX7_one 127 = .ok (.invokevirtual 149, 3) := by decide +kernel
theorem dX7_one_130 : decode cX7_one 130 = .ok (.aload_n 0, 1) := by decide +kernel
theorem dX7_one_131 : decode cX7_one 131 = .ok (.iload_n 3, 1) := by decide +kernel
theorem dX7_one_132 : decode cX7_one 132 = .ok (.ldc 72, 2) := by decide +kernel
theorem dX7_one_134 : decode cX7_one 134 = .ok (.iand, 1) := by decide +kernel
theorem dX7_one_135 : decode cX7_one 135 = .ok (.putfield 128, 3) := by decide +kernel
theorem dX7_one_138 : decode cX7_one 138 = .ok (.iconst 1, 1) := by decide +kernel
theorem dX7_one_139 : decode cX7_one 139 = .ok (.ireturn, 1) := by decide +kernel
theorem dX7_one_140 : decode cX7_one 140 = .ok (.iload_n 2, 1) := by decide +kernel
theorem dX7_one_141 : decode cX7_one 141 = .ok (.bipush 13, 2) := by decide +kernel
theorem dX7_one_143 : decode cX7_one 143 = .ok (.if_icmp .le 5, 3) := by decide +kernel
theorem dX7_one_146 : decode cX7_one 146 = .ok (.iconst 0, 1) := by decide +kernel
theorem dX7_one_147 : decode cX7_one 147 = .ok (.ireturn, 1) := by decide +kernel
theorem dX7_one_148 : decode cX7_one 148 = .ok (.aload_n 0, 1) := by decide +kernel
theorem dX7_one_149 : decode cX7_one 149 = .ok (.iload_n 2, 1) := by decide +kernel
theorem dX7_one_150 : decode cX7_one 150 = .ok (.iload_n 3, 1) := by decide +kernel
theorem dX7_one_151 : decode cX7_one 151 = .ok (.invokevirtual 199, 3) := by decide +kernel
theorem dX7_one_154 : decode cX7_one 154 = .ok (.iconst 1, 1) := by decide +kernel
theorem dX7_one_155 : decode cX7_one 155 = .ok (.ireturn, 1) := by decide +kernel
theorem dX7_changes_0 : decode cX7_changes 0 = .ok (.aload_n 0, 1) := by decide +kernel
theorem dX7_changes_1 : decode cX7_changes 1 = .ok (.iload_n 2, 1) := by decide +kernel
theorem dX7_changes_2 : decode cX7_changes 2 = .ok (.invokevirtual 122, 3) := by decide +kernel
theorem dX7_changes_5 : decode cX7_changes 5 = .ok (.istore_n 3, 1) := by decide +kernel
theorem dX7_changes_6 : decode cX7_changes 6 = .ok (.iload_n 3, 1) := by decide +kernel
theorem dX7_changes_7 : decode cX7_changes 7 = .ok (.istore 4, 2) := by decide +kernel
theorem dX7_changes_9 : decode cX7_changes 9 = .ok (.iload_n 1, 1) := by decide +kernel
theorem dX7_changes_10 : decode cX7_changes 10 = .ok (.tableswitch 166 3 12 #[54, 60, 72, 91, 103, 115, 128, 166, 141, 159], 54) := by decide +kernel
theorem dX7_changes_64 : decode cX7_changes 64 = .ok (.iconst 0, 1) := by decide +kernel
theorem dX7_changes_65 : decode cX7_changes 65 = .ok (.istore 4, 2) := by decide +kernel
theorem dX7_changes_67 : decode cX7_changes 67 = .ok (.goto 158, 3) := by decide +kernel
theorem dX7_changes_70 : decode cX7_changes 70 = .ok (.aload_n 0, 1) := by decide +kernel
theorem dX7_changes_71 : decode cX7_changes 71 = .ok (.iconst 0, 1) := by decide +kernel
theorem dX7_changes_72 : decode cX7_changes 72 = .ok (.iload_n 3, 1) := by decide +kernel
theorem dX7_changes_73 : decode cX7_changes 73 = .ok (.iconst 0, 1) := by decide +kernel
theorem dX7_changes_74 : decode cX7_changes 74 = .ok (.invokevirtual 161, 3) := by decide +kernel
theorem dX7_changes_77 : decode cX7_changes 77 = .ok (.istore 4, 2) := by decide +kernel
theorem dX7_changes_79 : decode cX7_changes 79 = .ok (.goto 146, 3) := by decide +kernel
theorem dX7_changes_82 : decode cX7_changes 82 = .ok (.iload_n 3, 1) := by decide +kernel
theorem dX7_changes_83 : decode cX7_changes 83 = .ok (.iconst (-1), 1) := by decide +kernel
theorem dX7_changes_84 : decode cX7_changes 84 = .ok (.ixor, 1) := by decide +kernel
theorem dX7_changes_85 : decode cX7_changes 85 = .ok (.ldc 118, 2) := by decide +kernel
theorem dX7_changes_87 : decode cX7_changes 87 = .ok (.iand, 1) := by decide +kernel
theorem dX7_changes_88 : decode cX7_changes 88 = .ok (.istore 4, 2) := by decide +kernel
theorem dX7_changes_90 : decode cX7_changes 90 = .ok (.aload_n 0, 1) := by decide +kernel
theorem dX7_changes_91 : decode cX7_changes 91 = .ok (.iload 4, 2) := by decide +kernel
theorem dX7_changes_93 : decode cX7_changes 93 = .ok (.iconst 0, 1) := by decide +kernel
theorem dX7_changes_94 : decode cX7_changes 94 = .ok (.iconst 0, 1) := by decide +kernel
theorem dX7_changes_95 : decode cX7_changes 95 = .ok (.invokevirtual 151, 3) := by decide +kernel
theorem dX7_changes_98 : decode cX7_changes 98 = .ok (.goto 127, 3) := by decide +kernel
theorem dX7_changes_101 : decode cX7_changes 101 = .ok (.aload_n 0, 1) := by decide +kernel
theorem dX7_changes_102 : decode cX7_changes 102 = .ok (.iload_n 3, 1) := by decide +kernel
theorem dX7_changes_103 : decode cX7_changes 103 = .ok (.iconst 1, 1) := by decide +kernel
theorem dX7_changes_104 : decode cX7_changes 104 = .ok (.iconst 0, 1) := by decide +kernel
theorem dX7_changes_105 : decode cX7_changes 105 = .ok (.invokevirtual 165, 3) := by decide +kernel
theorem dX7_changes_108 : decode cX7_changes 108 = .ok (.istore 4, 2) := by decide +kernel
theorem dX7_changes_110 : decode cX7_changes 110 = .ok (.goto 115, 3) := by decide +kernel
theorem dX7_changes_113 : decode cX7_changes 113 = .ok (.aload_n 0, 1) := by decide +kernel
theorem dX7_changes_114 : decode cX7_changes 114 = .ok (.iload_n 3, 1) := by decide +kernel
theorem dX7_changes_115 : decode cX7_changes 115 = .ok (.iconst 2, 1) := by decide +kernel
theorem dX7_changes_116 : decode cX7_changes 116 = .ok (.iconst 0, 1) := by decide +kernel
theorem dX7_changes_117 : decode cX7_changes 117 = .ok (.invokevirtual 165, 3) := by decide +kernel
theorem dX7_changes_120 : decode cX7_changes 120 = .ok (.istore 4, 2) := by decide +kernel
theorem dX7_changes_122 : decode cX7_changes 122 = .ok (.goto 103, 3) := by decide +kernel
theorem dX7_changes_125 : decode cX7_changes 125 = .ok (.aload_n 0, 1) := by decide +kernel
theorem dX7_changes_126 : decode cX7_changes 126 = .ok (.iload_n 3, 1) := by decide +kernel
theorem dX7_changes_127 : decode cX7_changes 127 = .ok (.ldc 118, 2) := by decide +kernel
theorem dX7_changes_129 : decode cX7_changes 129 = .ok (.iconst 0, 1) := by decide +kernel
theorem dX7_changes_130 : decode cX7_changes 130 = .ok (.invokevirtual 165, 3) := by decide +kernel
theorem dX7_changes_133 : decode cX7_changes 133 = .ok (.istore 4, 2) := by decide +kernel
theorem dX7_changes_135 : decode cX7_changes 135 = .ok (.goto 90, 3) := by decide +kernel
theorem dX7_changes_138 : decode cX7_changes 138 = .ok (.aload_n 0, 1) := by decide +kernel
theorem dX7_changes_139 : decode cX7_changes 139 = .ok (.iload_n 3, 1) := by decide +kernel
theorem dX7_changes_140 : decode cX7_changes 140 = .ok (.ldc 72, 2) := by decide +kernel
theorem dX7_changes_142 : decode cX7_changes 142 = .ok (.iconst 0, 1) := by decide +kernel
theorem dX7_changes_143 : decode cX7_changes 143 = .ok (.invokevirtual 165, 3) := by decide +kernel
theorem dX7_changes_146 : decode cX7_changes 146 = .ok (.istore 4, 2) := by decide +kernel
theorem dX7_changes_148 : decode cX7_changes 148 = .ok (.goto 77, 3) := by decide +kernel
theorem dX7_changes_151 : decode cX7_changes 151 = .ok (.iload_n 3, 1) := by decide +kernel
theorem dX7_changes_152 : decode cX7_changes 152 = .ok (.bipush 8, 2) := by decide +kernel
theorem dX7_changes_154 : decode cX7_changes 154 = .ok (.ishr, 1) := by decide +kernel
theorem dX7_changes_155 : decode cX7_changes 155 = .ok (.iload_n 3, 1) := by decide +kernel
theorem dX7_changes_156 : decode cX7_changes 156 = .ok (.sipush 255, 3) := by decide +kernel
theorem dX7_changes_159 : decode cX7_changes 159 = .ok (.iand, 1) := by decide +kernel
theorem dX7_changes_160 : decode cX7_changes 160 = .ok (.bipush 8, 2) := by decide +kernel
theorem dX7_changes_162 : decode cX7_changes 162 = .ok (.ishl, 1) := by decide +kernel
theorem dX7_changes_163 : decode cX7_changes 163 = .ok (.ior, 1) := by decide +kernel
theorem dX7_changes_164 : decode cX7_changes 164 = .ok (.istore 4, 2) := by decide +kernel
theorem dX7_changes_166 : decode cX7_changes 166 = .ok (.goto 59, 3) := by decide +kernel
theorem dX7_changes_169 : decode cX7_changes 169 = .ok (.ldc 118, 2) := by decide +kernel
theorem dX7_changes_171 : decode cX7_changes 171 = .ok (.istore 4, 2) := by decide +kernel
theorem dX7_changes_173 : decode cX7_changes 173 = .ok (.goto 52, 3) := by decide +kernel
theorem dX7_changes_176 : decode cX7_changes 176 = .ok (.aload_n 0, 1) := by decide +kernel
theorem dX7_changes_177 : decode cX7_changes 177 = .ok (.iload_n 3, 1) := by decide +kernel
theorem dX7_changes_178 : decode cX7_changes 178 = .ok (.iconst 0, 1) := by decide +kernel
theorem dX7_changes_179 : decode cX7_changes 179 = .ok (.iconst 0, 1) := by decide +kernel
theorem dX7_changes_180 : decode cX7_changes 180 = .ok (.invokevirtual 151, 3) := by decide +kernel
theorem dX7_changes_183 : decode cX7_changes 183 = .ok (.aload_n 0, 1) := by decide +kernel
theorem dX7_changes_184 : decode cX7_changes 184 = .ok (.sipush 4096, 3) := by decide +kernel
theorem dX7_changes_187 : decode cX7_changes 187 = .ok (.iconst 0, 1) := by decide +kernel
theorem dX7_changes_188 : decode cX7_changes 188 = .ok (.invokevirtual 134, 3) := by decide +kernel
theorem dX7_changes_191 : decode cX7_changes 191 = .ok (.aload_n 0, 1) := by decide +kernel
theorem dX7_changes_192 : decode cX7_changes 192 = .ok (.sipush 2048, 3) := by decide +kernel
theorem dX7_changes_195 : decode cX7_changes 195 = .ok (.iload_n 3, 1) := by decide +kernel
theorem dX7_changes_196 : decode cX7_changes 196 = .ok (.ldc 52, 2) := by decide +kernel
theorem dX7_changes_198 : decode cX7_changes 198 = .ok (.if_icmp .ne 7, 3) := by decide +kernel
theorem dX7_changes_201 : decode cX7_changes 201 = .ok (.iconst 1, 1) := by decide +kernel
theorem dX7_changes_202 : decode cX7_changes 202 = .ok (.goto 4, 3) := by decide +kernel
theorem dX7_changes_205 : decode cX7_changes 205 = .ok (.iconst 0, 1) := by decide +kernel
theorem dX7_changes_206 : decode cX7_changes 206 = .ok (.invokevirtual 134, 3) := by decide +kernel
theorem dX7_changes_209 : decode cX7_changes 209 = .ok (.iload_n 3, 1) := by decide +kernel
theorem dX7_changes_210 : decode cX7_changes 210 = .ok (.ldc 52, 2) := by decide +kernel
theorem dX7_changes_212 : decode cX7_changes 212 = .ok (.if_icmp .le 10, 3) := by decide +kernel
theorem dX7_changes_215 : decode cX7_changes 215 = .ok (.ldc 13, 2) := by decide +kernel
theorem dX7_changes_217 : decode cX7_changes 217 = .ok (.iload_n 3, 1) := by decide +kernel
theorem dX7_changes_218 : decode cX7_changes 218 = .ok (.isub, 1) := by decide +kernel
theorem dX7_changes_219 : decode cX7_changes 219 = .ok (.goto 4, 3) := by decide +kernel
theorem dX7_changes_222 : decode cX7_changes 222 = .ok (.iload_n 3, 1) := by decide +kernel
theorem dX7_changes_223 : decode cX7_changes 223 = .ok (.istore 4, 2) := by decide +kernel
theorem dX7_changes_225 : decode cX7_changes 225 = .ok (.aload_n 0, 1) := by decide +kernel
theorem dX7_changes_226 : decode cX7_changes 226 = .ok (.iload_n 2, 1) := by decide +kernel
theorem dX7_changes_227 : decode cX7_changes 227 = .ok (.iload 4, 2) := by decide +kernel
theorem dX7_changes_229 : decode cX7_changes 229 = .ok (.invokevirtual 125, 3) := by decide +kernel
theorem dX7_changes_232 : decode cX7_changes 232 = .ok (.return_, 1) := by decide +kernel
theorem dX7_told_0 : decode cX7_told 0 = .ok (.iload_n 1, 1) := by decide +kernel
theorem dX7_told_1 : decode cX7_told 1 = .ok (.bipush 15, 2) := by decide +kernel
theorem dX7_told_3 : decode cX7_told 3 = .ok (.iand, 1) := by decide +kernel
theorem dX7_told_4 : decode cX7_told 4 = .ok (.istore_n 2, 1) := by decide +kernel
theorem dX7_told_5 : decode cX7_told 5 = .ok (.iload_n 1, 1) := by decide +kernel
theorem dX7_told_6 : decode cX7_told 6 = .ok (.iconst 5, 1) := by decide +kernel
theorem dX7_told_7 : decode cX7_told 7 = .ok (.ishr, 1) := by decide +kernel
theorem dX7_told_8 : decode cX7_told 8 = .ok (.bipush 15, 2) := by decide +kernel
theorem dX7_told_10 : decode cX7_told 10 = .ok (.iand, 1) := by decide +kernel
theorem dX7_told_11 : decode cX7_told 11 = .ok (.istore_n 3, 1) := by decide +kernel
theorem dX7_told_12 : decode cX7_told 12 = .ok (.iload_n 3, 1) := by decide +kernel
theorem dX7_told_13 : decode cX7_told 13 = .ok (.iconst 5, 1) := by decide +kernel
theorem dX7_told_14 : decode cX7_told 14 = .ok (.if_icmp .ge 15, 3) := by decide +kernel
theorem dX7_told_17 : decode cX7_told 17 = .ok (.aload_n 0, 1) := by decide +kernel
theorem dX7_told_18 : decode cX7_told 18 = .ok (.iload_n 3, 1) := by decide +kernel
theorem dX7_told_19 : decode cX7_told 19 = .ok (.iload_n 2, 1) := by decide +kernel
theorem dX7_told_20 : decode cX7_told 20 = .ok (.aload_n 0, 1) := by decide +kernel
theorem dX7_told_21 : decode cX7_told 21 = .ok (.invokevirtual 142, 3) := by decide +kernel
theorem dX7_told_24 : decode cX7_told 24 = .ok (.invokevirtual 202, 3) := by decide +kernel
theorem dX7_told_27 : decode cX7_told 27 = .ok (.iconst 1, 1) := by decide +kernel
theorem dX7_told_28 : decode cX7_told 28 = .ok (.ireturn, 1) := by decide +kernel
theorem dX7_told_29 : decode cX7_told 29 = .ok (.iload_n 3, 1) := by decide +kernel
theorem dX7_told_30 : decode cX7_told 30 = .ok (.tableswitch 130 5 12 #[46, 57, 68, 81, 102, 104, 111, 124], 46) := by decide +kernel
theorem dX7_told_76 : decode cX7_told 76 = .ok (.aload_n 0, 1) := by decide +kernel
theorem dX7_told_77 : decode cX7_told 77 = .ok (.iload_n 2, 1) := by decide +kernel
theorem dX7_told_78 : decode cX7_told 78 = .ok (.aload_n 0, 1) := by decide +kernel
theorem dX7_told_79 : decode cX7_told 79 = .ok (.getfield 115, 3) := by decide +kernel
theorem dX7_told_82 : decode cX7_told 82 = .ok (.invokevirtual 149, 3) := by decide +kernel
theorem dX7_told_85 : decode cX7_told 85 = .ok (.iconst 1, 1) := by decide +kernel
theorem dX7_told_86 : decode cX7_told 86 = .ok (.ireturn, 1) := by decide +kernel
theorem dX7_told_87 : decode cX7_told 87 = .ok (.aload_n 0, 1) := by decide +kernel
theorem dX7_told_88 : decode cX7_told 88 = .ok (.iload_n 2, 1) := by decide +kernel
theorem dX7_told_89 : decode cX7_told 89 = .ok (.aload_n 0, 1) := by decide +kernel
theorem dX7_told_90 : decode cX7_told 90 = .ok (.getfield 131, 3) := by decide +kernel
theorem dX7_told_93 : decode cX7_told 93 = .ok (.invokevirtual 149, 3) := by decide +kernel
theorem dX7_told_96 : decode cX7_told 96 = .ok (.iconst 1, 1) := by decide +kernel
theorem dX7_told_97 : decode cX7_told 97 = .ok (.ireturn, 1) := by decide +kernel
theorem dX7_told_98 : decode cX7_told 98 = .ok (.aload_n 0, 1) := by decide +kernel
theorem dX7_told_99 : decode cX7_told 99 = .ok (.aload_n 0, 1) := by decide +kernel
theorem dX7_told_100 : decode cX7_told 100 = .ok (.invokevirtual 142, 3) := by decide +kernel
theorem dX7_told_103 : decode cX7_told 103 = .ok (.ldc 72, 2) := by decide +kernel
theorem dX7_told_105 : decode cX7_told 105 = .ok (.iand, 1) := by decide +kernel
theorem dX7_told_106 : decode cX7_told 106 = .ok (.putfield 115, 3) := by decide +kernel
theorem dX7_told_109 : decode cX7_told 109 = .ok (.iconst 1, 1) := by decide +kernel
theorem dX7_told_110 : decode cX7_told 110 = .ok (.ireturn, 1) := by decide +kernel
theorem dX7_told_111 : decode cX7_told 111 = .ok (.aload_n 0, 1) := by decide +kernel
theorem dX7_told_112 : decode cX7_told 112 = .ok (.aload_n 0, 1) := by decide +kernel
theorem dX7_told_113 : decode cX7_told 113 = .ok (.getfield 131, 3) := by decide +kernel
theorem dX7_told_116 : decode cX7_told 116 = .ok (.bipush (-16), 2) := by decide +kernel
theorem dX7_told_118 : decode cX7_told 118 = .ok (.iand, 1) := by decide +kernel
theorem dX7_told_119 : decode cX7_told 119 = .ok (.aload_n 0, 1) := by decide +kernel
theorem dX7_told_120 : decode cX7_told 120 = .ok (.invokevirtual 142, 3) := by decide +kernel
theorem dX7_told_123 : decode cX7_told 123 = .ok (.bipush 15, 2) := by decide +kernel
theorem dX7_told_125 : decode cX7_told 125 = .ok (.iand, 1) := by decide +kernel
theorem dX7_told_126 : decode cX7_told 126 = .ok (.ior, 1) := by decide +kernel
theorem dX7_told_127 : decode cX7_told 127 = .ok (.putfield 131, 3) := by decide +kernel
theorem dX7_told_130 : decode cX7_told 130 = .ok (.iconst 1, 1) := by decide +kernel
theorem dX7_told_131 : decode cX7_told 131 = .ok (.ireturn, 1) := by decide +kernel
theorem dX7_told_132 : decode cX7_told 132 = .ok (.iconst 0, 1) := by decide +kernel
theorem dX7_told_133 : decode cX7_told 133 = .ok (.ireturn, 1) := by decide +kernel
theorem dX7_told_134 : decode cX7_told 134 = .ok (.aload_n 0, 1) := by decide +kernel
theorem dX7_told_135 : decode cX7_told 135 = .ok (.iconst 1, 1) := by decide +kernel
theorem dX7_told_136 : decode cX7_told 136 = .ok (.putfield 34, 3) := by decide +kernel
theorem dX7_told_139 : decode cX7_told 139 = .ok (.iconst 1, 1) := by decide +kernel
theorem dX7_told_140 : decode cX7_told 140 = .ok (.ireturn, 1) := by decide +kernel
theorem dX7_told_141 : decode cX7_told 141 = .ok (.aload_n 0, 1) := by decide +kernel
theorem dX7_told_142 : decode cX7_told 142 = .ok (.aload_n 0, 1) := by decide +kernel
theorem dX7_told_143 : decode cX7_told 143 = .ok (.getfield 131, 3) := by decide +kernel
theorem dX7_told_146 : decode cX7_told 146 = .ok (.bipush (-16), 2) := by decide +kernel
theorem dX7_told_148 : decode cX7_told 148 = .ok (.iand, 1) := by decide +kernel
theorem dX7_told_149 : decode cX7_told 149 = .ok (.putfield 131, 3) := by decide +kernel
theorem dX7_told_152 : decode cX7_told 152 = .ok (.iconst 1, 1) := by decide +kernel
theorem dX7_told_153 : decode cX7_told 153 = .ok (.ireturn, 1) := by decide +kernel
theorem dX7_told_154 : decode cX7_told 154 = .ok (.aload_n 0, 1) := by decide +kernel
theorem dX7_told_155 : decode cX7_told 155 = .ok (.invokevirtual 205, 3) := by decide +kernel
theorem dX7_told_158 : decode cX7_told 158 = .ok (.iconst 1, 1) := by decide +kernel
theorem dX7_told_159 : decode cX7_told 159 = .ok (.ireturn, 1) := by decide +kernel
theorem dX7_told_160 : decode cX7_told 160 = .ok (.iconst 1, 1) := by decide +kernel
theorem dX7_told_161 : decode cX7_told 161 = .ok (.ireturn, 1) := by decide +kernel
theorem dX7_comesBack_0 : decode cX7_comesBack 0 = .ok (.aload_n 0, 1) := by decide +kernel
theorem dX7_comesBack_1 : decode cX7_comesBack 1 = .ok (.bipush 15, 2) := by decide +kernel
theorem dX7_comesBack_3 : decode cX7_comesBack 3 = .ok (.invokevirtual 146, 3) := by decide +kernel
theorem dX7_comesBack_6 : decode cX7_comesBack 6 = .ok (.istore_n 1, 1) := by decide +kernel
