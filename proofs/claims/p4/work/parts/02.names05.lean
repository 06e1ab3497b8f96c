theorem dX4_shifted_55 : decode cX4_shifted 55 = .ok (.ireturn, 1) := by decide +kernel
theorem dX4_shifted_56 : decode cX4_shifted 56 = .ok (.iload_n 1, 1) := by decide +kernel
theorem dX4_shifted_57 : decode cX4_shifted 57 = .ok (.iconst 1, 1) := by decide +kernel
theorem dX4_shifted_58 : decode cX4_shifted 58 = .ok (.ishr, 1) := by decide +kernel
theorem dX4_shifted_59 : decode cX4_shifted 59 = .ok (.iload_n 1, 1) := by decide +kernel
theorem dX4_shifted_60 : decode cX4_shifted 60 = .ok (.iconst 1, 1) := by decide +kernel
theorem dX4_shifted_61 : decode cX4_shifted 61 = .ok (.iand, 1) := by decide +kernel
theorem dX4_shifted_62 : decode cX4_shifted 62 = .ok (.bipush 15, 2) := by decide +kernel
theorem dX4_shifted_64 : decode cX4_shifted 64 = .ok (.ishl, 1) := by decide +kernel
theorem dX4_shifted_65 : decode cX4_shifted 65 = .ok (.ior, 1) := by decide +kernel
theorem dX4_shifted_66 : decode cX4_shifted 66 = .ok (.ireturn, 1) := by decide +kernel
theorem dX4_doJump_0 : decode cX4_doJump 0 = .ok (.aload_n 0, 1) := by decide +kernel
theorem dX4_doJump_1 : decode cX4_doJump 1 = .ok (.iload_n 1, 1) := by decide +kernel
theorem dX4_doJump_2 : decode cX4_doJump 2 = .ok (.bipush 8, 2) := by decide +kernel
theorem dX4_doJump_4 : decode cX4_doJump 4 = .ok (.ishr, 1) := by decide +kernel
theorem dX4_doJump_5 : decode cX4_doJump 5 = .ok (.invokevirtual 175, 3) := by decide +kernel
theorem dX4_doJump_8 : decode cX4_doJump 8 = .ok (.ifCond .eq 19, 3) := by decide +kernel
theorem dX4_doJump_11 : decode cX4_doJump 11 = .ok (.aload_n 0, 1) := by decide +kernel
theorem dX4_doJump_12 : decode cX4_doJump 12 = .ok (.aload_n 0, 1) := by decide +kernel
theorem dX4_doJump_13 : decode cX4_doJump 13 = .ok (.getfield 35, 3) := by decide +kernel
theorem dX4_doJump_16 : decode cX4_doJump 16 = .ok (.iconst 2, 1) := by decide +kernel
theorem dX4_doJump_17 : decode cX4_doJump 17 = .ok (.iload_n 1, 1) := by decide +kernel
theorem dX4_doJump_18 : decode cX4_doJump 18 = .ok (.i2b, 1) := by decide +kernel
theorem dX4_doJump_19 : decode cX4_doJump 19 = .ok (.imul, 1) := by decide +kernel
theorem dX4_doJump_20 : decode cX4_doJump 20 = .ok (.iadd, 1) := by decide +kernel
theorem dX4_doJump_21 : decode cX4_doJump 21 = .ok (.ldc 31, 2) := by decide +kernel
theorem dX4_doJump_23 : decode cX4_doJump 23 = .ok (.iand, 1) := by decide +kernel
theorem dX4_doJump_24 : decode cX4_doJump 24 = .ok (.putfield 35, 3) := by decide +kernel
theorem dX4_doJump_27 : decode cX4_doJump 27 = .ok (.return_, 1) := by decide +kernel
theorem dX4_jumps_0 : decode cX4_jumps 0 = .ok (.aload_n 0, 1) := by decide +kernel
theorem dX4_jumps_1 : decode cX4_jumps 1 = .ok (.getfield 38, 3) := by decide +kernel
theorem dX4_jumps_4 : decode cX4_jumps 4 = .ok (.ldc 135, 2) := by decide +kernel
theorem dX4_jumps_6 : decode cX4_jumps 6 = .ok (.iand, 1) := by decide +kernel
theorem dX4_jumps_7 : decode cX4_jumps 7 = .ok (.ifCond .eq 7, 3) := by decide +kernel
theorem dX4_jumps_10 : decode cX4_jumps 10 = .ok (.iconst 1, 1) := by decide +kernel
theorem dX4_jumps_11 : decode cX4_jumps 11 = .ok (.goto 4, 3) := by decide +kernel
theorem dX4_jumps_14 : decode cX4_jumps 14 = .ok (.iconst 0, 1) := by decide +kernel
theorem dX4_jumps_15 : decode cX4_jumps 15 = .ok (.istore_n 2, 1) := by decide +kernel
theorem dX4_jumps_16 : decode cX4_jumps 16 = .ok (.aload_n 0, 1) := by decide +kernel
theorem dX4_jumps_17 : decode cX4_jumps 17 = .ok (.getfield 38, 3) := by decide +kernel
theorem dX4_jumps_20 : decode cX4_jumps 20 = .ok (.sipush 16384, 3) := by decide +kernel
theorem dX4_jumps_23 : decode cX4_jumps 23 = .ok (.iand, 1) := by decide +kernel
theorem dX4_jumps_24 : decode cX4_jumps 24 = .ok (.ifCond .eq 7, 3) := by decide +kernel
theorem dX4_jumps_27 : decode cX4_jumps 27 = .ok (.iconst 1, 1) := by decide +kernel
theorem dX4_jumps_28 : decode cX4_jumps 28 = .ok (.goto 4, 3) := by decide +kernel
theorem dX4_jumps_31 : decode cX4_jumps 31 = .ok (.iconst 0, 1) := by decide +kernel
theorem dX4_jumps_32 : decode cX4_jumps 32 = .ok (.istore_n 3, 1) := by decide +kernel
theorem dX4_jumps_33 : decode cX4_jumps 33 = .ok (.aload_n 0, 1) := by decide +kernel
theorem dX4_jumps_34 : decode cX4_jumps 34 = .ok (.getfield 38, 3) := by decide +kernel
theorem dX4_jumps_37 : decode cX4_jumps 37 = .ok (.sipush 8192, 3) := by decide +kernel
theorem dX4_jumps_40 : decode cX4_jumps 40 = .ok (.iand, 1) := by decide +kernel
theorem dX4_jumps_41 : decode cX4_jumps 41 = .ok (.ifCond .eq 7, 3) := by decide +kernel
theorem dX4_jumps_44 : decode cX4_jumps 44 = .ok (.iconst 1, 1) := by decide +kernel
theorem dX4_jumps_45 : decode cX4_jumps 45 = .ok (.goto 4, 3) := by decide +kernel
theorem dX4_jumps_48 : decode cX4_jumps 48 = .ok (.iconst 0, 1) := by decide +kernel
theorem dX4_jumps_49 : decode cX4_jumps 49 = .ok (.istore 4, 2) := by decide +kernel
theorem dX4_jumps_51 : decode cX4_jumps 51 = .ok (.iload_n 1, 1) := by decide +kernel
theorem dX4_jumps_52 : decode cX4_jumps 52 = .ok (.tableswitch 208 16 27 #[64, 66, 81, 96, 99, 114, 116, 127, 144, 161, 178, 193], 64) := by decide +kernel
theorem dX4_jumps_116 : decode cX4_jumps 116 = .ok (.iconst 1, 1) := by decide +kernel
theorem dX4_jumps_117 : decode cX4_jumps 117 = .ok (.ireturn, 1) := by decide +kernel
theorem dX4_jumps_118 : decode cX4_jumps 118 = .ok (.iload_n 3, 1) := by decide +kernel
theorem dX4_jumps_119 : decode cX4_jumps 119 = .ok (.ifCond .ne 12, 3) := by decide +kernel
theorem dX4_jumps_122 : decode cX4_jumps 122 = .ok (.iload 4, 2) := by decide +kernel
theorem dX4_jumps_124 : decode cX4_jumps 124 = .ok (.ifCond .ne 7, 3) := by decide +kernel
theorem dX4_jumps_127 : decode cX4_jumps 127 = .ok (.iconst 1, 1) := by decide +kernel
theorem dX4_jumps_128 : decode cX4_jumps 128 = .ok (.goto 4, 3) := by decide +kernel
theorem dX4_jumps_131 : decode cX4_jumps 131 = .ok (.iconst 0, 1) := by decide +kernel
theorem dX4_jumps_132 : decode cX4_jumps 132 = .ok (.ireturn, 1) := by decide +kernel
theorem dX4_jumps_133 : decode cX4_jumps 133 = .ok (.iload_n 2, 1) := by decide +kernel
theorem dX4_jumps_134 : decode cX4_jumps 134 = .ok (.ifCond .eq 8, 3) := by decide +kernel
theorem dX4_jumps_137 : decode cX4_jumps 137 = .ok (.iload 4, 2) := by decide +kernel
theorem dX4_jumps_139 : decode cX4_jumps 139 = .ok (.ifCond .eq 7, 3) := by decide +kernel
theorem dX4_jumps_142 : decode cX4_jumps 142 = .ok (.iconst 1, 1) := by decide +kernel
theorem dX4_jumps_143 : decode cX4_jumps 143 = .ok (.goto 4, 3) := by decide +kernel
theorem dX4_jumps_146 : decode cX4_jumps 146 = .ok (.iconst 0, 1) := by decide +kernel
theorem dX4_jumps_147 : decode cX4_jumps 147 = .ok (.ireturn, 1) := by decide +kernel
theorem dX4_jumps_148 : decode cX4_jumps 148 = .ok (.iload 4, 2) := by decide +kernel
theorem dX4_jumps_150 : decode cX4_jumps 150 = .ok (.ireturn, 1) := by decide +kernel
theorem dX4_jumps_151 : decode cX4_jumps 151 = .ok (.iload_n 2, 1) := by decide +kernel
theorem dX4_jumps_152 : decode cX4_jumps 152 = .ok (.ifCond .ne 8, 3) := by decide +kernel
theorem dX4_jumps_155 : decode cX4_jumps 155 = .ok (.iload 4, 2) := by decide +kernel
theorem dX4_jumps_157 : decode cX4_jumps 157 = .ok (.ifCond .eq 7, 3) := by decide +kernel
theorem dX4_jumps_160 : decode cX4_jumps 160 = .ok (.iconst 1, 1) := by decide +kernel
theorem dX4_jumps_161 : decode cX4_jumps 161 = .ok (.goto 4, 3) := by decide +kernel
theorem dX4_jumps_164 : decode cX4_jumps 164 = .ok (.iconst 0, 1) := by decide +kernel
theorem dX4_jumps_165 : decode cX4_jumps 165 = .ok (.ireturn, 1) := by decide +kernel
theorem dX4_jumps_166 : decode cX4_jumps 166 = .ok (.iload_n 3, 1) := by decide +kernel
theorem dX4_jumps_167 : decode cX4_jumps 167 = .ok (.ireturn, 1) := by decide +kernel
theorem dX4_jumps_168 : decode cX4_jumps 168 = .ok (.iload 4, 2) := by decide +kernel
theorem dX4_jumps_170 : decode cX4_jumps 170 = .ok (.ifCond .ne 7, 3) := by decide +kernel
theorem dX4_jumps_173 : decode cX4_jumps 173 = .ok (.iconst 1, 1) := by decide +kernel
theorem dX4_jumps_174 : decode cX4_jumps 174 = .ok (.goto 4, 3) := by decide +kernel
theorem dX4_jumps_177 : decode cX4_jumps 177 = .ok (.iconst 0, 1) := by decide +kernel
theorem dX4_jumps_178 : decode cX4_jumps 178 = .ok (.ireturn, 1) := by decide +kernel
theorem dX4_jumps_179 : decode cX4_jumps 179 = .ok (.aload_n 0, 1) := by decide +kernel
theorem dX4_jumps_180 : decode cX4_jumps 180 = .ok (.getfield 38, 3) := by decide +kernel
theorem dX4_jumps_183 : decode cX4_jumps 183 = .ok (.sipush 4096, 3) := by decide +kernel
theorem dX4_jumps_186 : decode cX4_jumps 186 = .ok (.iand, 1) := by decide +kernel
theorem dX4_jumps_187 : decode cX4_jumps 187 = .ok (.ifCond .ne 7, 3) := by decide +kernel
theorem dX4_jumps_190 : decode cX4_jumps 190 = .ok (.iconst 1, 1) := by decide +kernel
theorem dX4_jumps_191 : decode cX4_jumps 191 = .ok (.goto 4, 3) := by decide +kernel
theorem dX4_jumps_194 : decode cX4_jumps 194 = .ok (.iconst 0, 1) := by decide +kernel
theorem dX4_jumps_195 : decode cX4_jumps 195 = .ok (.ireturn, 1) := by decide +kernel
theorem dX4_jumps_196 : decode cX4_jumps 196 = .ok (.aload_n 0, 1) := by decide +kernel
theorem dX4_jumps_197 : decode cX4_jumps 197 = .ok (.getfield 38, 3) := by decide +kernel
theorem dX4_jumps_200 : decode cX4_jumps 200 = .ok (.sipush 4096, 3) := by decide +kernel
theorem dX4_jumps_203 : decode cX4_jumps 203 = .ok (.iand, 1) := by decide +kernel
theorem dX4_jumps_204 : decode cX4_jumps 204 = .ok (.ifCond .eq 7, 3) := by decide +kernel
theorem dX4_jumps_207 : decode cX4_jumps 207 = .ok (.iconst 1, 1) := by decide +kernel
theorem dX4_jumps_208 : decode cX4_jumps 208 = .ok (.goto 4, 3) := by decide +kernel
theorem dX4_jumps_211 : decode cX4_jumps 211 = .ok (.iconst 0, 1) := by decide +kernel
theorem dX4_jumps_212 : decode cX4_jumps 212 = .ok (.ireturn, 1) := by decide +kernel
theorem dX4_jumps_213 : decode cX4_jumps 213 = .ok (.aload_n 0, 1) := by decide +kernel
theorem dX4_jumps_214 : decode cX4_jumps 214 = .ok (.getfield 38, 3) := by decide +kernel
theorem dX4_jumps_217 : decode cX4_jumps 217 = .ok (.sipush 2048, 3) := by decide +kernel
theorem dX4_jumps_220 : decode cX4_jumps 220 = .ok (.iand, 1) := by decide +kernel
theorem dX4_jumps_221 : decode cX4_jumps 221 = .ok (.ifCond .ne 7, 3) := by decide +kernel
theorem dX4_jumps_224 : decode cX4_jumps 224 = .ok (.iconst 1, 1) := by decide +kernel
theorem dX4_jumps_225 : decode cX4_jumps 225 = .ok (.goto 4, 3) := by decide +kernel
theorem dX4_jumps_228 : decode cX4_jumps 228 = .ok (.iconst 0, 1) := by decide +kernel
theorem dX4_jumps_229 : decode cX4_jumps 229 = .ok (.ireturn, 1) := by decide +kernel
theorem dX4_jumps_230 : decode cX4_jumps 230 = .ok (.iload_n 2, 1) := by decide +kernel
theorem dX4_jumps_231 : decode cX4_jumps 231 = .ok (.ifCond .ne 12, 3) := by decide +kernel
theorem dX4_jumps_234 : decode cX4_jumps 234 = .ok (.iload 4, 2) := by decide +kernel
theorem dX4_jumps_236 : decode cX4_jumps 236 = .ok (.ifCond .ne 7, 3) := by decide +kernel
theorem dX4_jumps_239 : decode cX4_jumps 239 = .ok (.iconst 1, 1) := by decide +kernel
theorem dX4_jumps_240 : decode cX4_jumps 240 = .ok (.goto 4, 3) := by decide +kernel
theorem dX4_jumps_243 : decode cX4_jumps 243 = .ok (.iconst 0, 1) := by decide +kernel
theorem dX4_jumps_244 : decode cX4_jumps 244 = .ok (.ireturn, 1) := by decide +kernel
theorem dX4_jumps_245 : decode cX4_jumps 245 = .ok (.iload_n 2, 1) := by decide +kernel
theorem dX4_jumps_246 : decode cX4_jumps 246 = .ok (.ifCond .eq 12, 3) := by decide +kernel
theorem dX4_jumps_249 : decode cX4_jumps 249 = .ok (.iload 4, 2) := by decide +kernel
theorem dX4_jumps_251 : decode cX4_jumps 251 = .ok (.ifCond .ne 7, 3) := by decide +kernel
theorem dX4_jumps_254 : decode cX4_jumps 254 = .ok (.iconst 1, 1) := by decide +kernel
theorem dX4_jumps_255 : decode cX4_jumps 255 = .ok (.goto 4, 3) := by decide +kernel
theorem dX4_jumps_258 : decode cX4_jumps 258 = .ok (.iconst 0, 1) := by decide +kernel
theorem dX4_jumps_259 : decode cX4_jumps 259 = .ok (.ireturn, 1) := by decide +kernel
theorem dX4_jumps_260 : decode cX4_jumps 260 = .ok (.aload_n 0, 1) := by decide +kernel
theorem dX4_jumps_261 : decode cX4_jumps 261 = .ok (.getfield 38, 3) := by decide +kernel
theorem dX4_jumps_264 : decode cX4_jumps 264 = .ok (.sipush 1024, 3) := by decide +kernel
theorem dX4_jumps_267 : decode cX4_jumps 267 = .ok (.iand, 1) := by decide +kernel
theorem dX4_jumps_268 : decode cX4_jumps 268 = .ok (.ifCond .eq 7, 3) := by decide +kernel
theorem dX4_jumps_271 : decode cX4_jumps 271 = .ok (.iconst 1, 1) := by decide +kernel
theorem dX4_jumps_272 : decode cX4_jumps 272 = .ok (.goto 4, 3) := by decide +kernel
theorem dX4_jumps_275 : decode cX4_jumps 275 = .ok (.iconst 0, 1) := by decide +kernel
theorem dX4_jumps_276 : decode cX4_jumps 276 = .ok (.ireturn, 1) := by decide +kernel
theorem dX4_baseBit_0 : decode cX4_baseBit 0 = .ok (.aload_n 0, 1) := by decide +kernel
theorem dX4_baseBit_1 : decode cX4_baseBit 1 = .ok (.getfield 13, 3) := by decide +kernel
theorem dX4_baseBit_4 : decode cX4_baseBit 4 = .ok (.aload_n 0, 1) := by decide +kernel
theorem dX4_baseBit_5 : decode cX4_baseBit 5 = .ok (.bipush 12, 2) := by decide +kernel
theorem dX4_baseBit_7 : decode cX4_baseBit 7 = .ok (.invokevirtual 128, 3) := by decide +kernel
theorem dX4_baseBit_10 : decode cX4_baseBit 10 = .ok (.invokevirtual 25, 3) := by decide +kernel
theorem dX4_baseBit_13 : decode cX4_baseBit 13 = .ok (.iconst 1, 1) := by decide +kernel
theorem dX4_baseBit_14 : decode cX4_baseBit 14 = .ok (.ishr, 1) := by decide +kernel
theorem dX4_baseBit_15 : decode cX4_baseBit 15 = .ok (.sipush 4095, 3) := by decide +kernel
theorem dX4_baseBit_18 : decode cX4_baseBit 18 = .ok (.iand, 1) := by decide +kernel
theorem dX4_baseBit_19 : decode cX4_baseBit 19 = .ok (.ireturn, 1) := by decide +kernel
theorem dX4_doSingleBit_0 : decode cX4_doSingleBit 0 = .ok (.aload_n 0, 1) := by decide +kernel
theorem dX4_doSingleBit_1 : decode cX4_doSingleBit 1 = .ok (.invokevirtual 178, 3) := by decide +kernel
theorem dX4_doSingleBit_4 : decode cX4_doSingleBit 4 = .ok (.iload_n 1, 1) := by decide +kernel
theorem dX4_doSingleBit_5 : decode cX4_doSingleBit 5 = .ok (.i2b, 1) := by decide +kernel
theorem dX4_doSingleBit_6 : decode cX4_doSingleBit 6 = .ok (.iadd, 1) := by decide +kernel
theorem dX4_doSingleBit_7 : decode cX4_doSingleBit 7 = .ok (.sipush 4095, 3) := by decide +kernel
theorem dX4_doSingleBit_10 : decode cX4_doSingleBit 10 = .ok (.iand, 1) := by decide +kernel
theorem dX4_doSingleBit_11 : decode cX4_doSingleBit 11 = .ok (.istore_n 2, 1) := by decide +kernel
theorem dX4_doSingleBit_12 : decode cX4_doSingleBit 12 = .ok (.iload_n 1, 1) := by decide +kernel
theorem dX4_doSingleBit_13 : decode cX4_doSingleBit 13 = .ok (.ldc 171, 2) := by decide +kernel
theorem dX4_doSingleBit_15 : decode cX4_doSingleBit 15 = .ok (.iand, 1) := by decide +kernel
theorem dX4_doSingleBit_16 : decode cX4_doSingleBit 16 = .ok (.lookupswitch 52 #[(7424, 28), (7680, 40)], 28) := by decide +kernel
theorem dX4_doSingleBit_44 : decode cX4_doSingleBit 44 = .ok (.aload_n 0, 1) := by decide +kernel
theorem dX4_doSingleBit_45 : decode cX4_doSingleBit 45 = .ok (.getfield 21, 3) := by decide +kernel
theorem dX4_doSingleBit_48 : decode cX4_doSingleBit 48 = .ok (.iload_n 2, 1) := by decide +kernel
theorem dX4_doSingleBit_49 : decode cX4_doSingleBit 49 = .ok (.iconst 1, 1) := by decide +kernel
theorem dX4_doSingleBit_50 : decode cX4_doSingleBit 50 = .ok (.invokevirtual 181, 3) := by decide +kernel
theorem dX4_doSingleBit_53 : decode cX4_doSingleBit 53 = .ok (.goto 39, 3) := by decide +kernel
theorem dX4_doSingleBit_56 : decode cX4_doSingleBit 56 = .ok (.aload_n 0, 1) := by decide +kernel
theorem dX4_doSingleBit_57 : decode cX4_doSingleBit 57 = .ok (.getfield 21, 3) := by decide +kernel
theorem dX4_doSingleBit_60 : decode cX4_doSingleBit 60 = .ok (.iload_n 2, 1) := by decide +kernel
theorem dX4_doSingleBit_61 : decode cX4_doSingleBit 61 = .ok (.iconst 0, 1) := by decide +kernel
theorem dX4_doSingleBit_62 : decode cX4_doSingleBit 62 = .ok (.invokevirtual 181, 3) := by decide +kernel
theorem dX4_doSingleBit_65 : decode cX4_doSingleBit 65 = .ok (.goto 27, 3) := by decide +kernel
theorem dX4_doSingleBit_68 : decode cX4_doSingleBit 68 = .ok (.aload_n 0, 1) := by decide +kernel
theorem dX4_doSingleBit_69 : decode cX4_doSingleBit 69 = .ok (.sipush 8192, 3) := by decide +kernel
theorem dX4_doSingleBit_72 : decode cX4_doSingleBit 72 = .ok (.aload_n 0, 1) := by decide +kernel
theorem dX4_doSingleBit_73 : decode cX4_doSingleBit 73 = .ok (.getfield 21, 3) := by decide +kernel
theorem dX4_doSingleBit_76 : decode cX4_doSingleBit 76 = .ok (.iload_n 2, 1) := by decide +kernel
theorem dX4_doSingleBit_77 : decode cX4_doSingleBit 77 = .ok (.invokevirtual 184, 3) := by decide +kernel
theorem dX4_doSingleBit_80 : decode cX4_doSingleBit 80 = .ok (.iconst 1, 1) := by decide +kernel
theorem dX4_doSingleBit_81 : decode cX4_doSingleBit 81 = .ok (.if_icmp .ne 7, 3) := by decide +kernel
theorem dX4_doSingleBit_84 : decode cX4_doSingleBit 84 = .ok (.iconst 1, 1) := by decide +kernel
theorem dX4_doSingleBit_85 : decode cX4_doSingleBit 85 = .ok (.goto 4, 3) := by decide +kernel
theorem dX4_doSingleBit_88 : decode cX4_doSingleBit 88 = .ok (.iconst 0, 1) := by decide +kernel
theorem dX4_doSingleBit_89 : decode cX4_doSingleBit 89 = .ok (.invokevirtual 136, 3) := by decide +kernel
theorem dX4_doSingleBit_92 : decode cX4_doSingleBit 92 = .ok (.return_, 1) := by decide +kernel
theorem dX4_doManyBits_0 : decode cX4_doManyBits 0 = .ok (.iload_n 1, 1) := by decide +kernel
theorem dX4_doManyBits_1 : decode cX4_doManyBits 1 = .ok (.bipush 6, 2) := by decide +kernel
theorem dX4_doManyBits_3 : decode cX4_doManyBits 3 = .ok (.ishr, 1) := by decide +kernel
theorem dX4_doManyBits_4 : decode cX4_doManyBits 4 = .ok (.bipush 15, 2) := by decide +kernel
theorem dX4_doManyBits_6 : decode cX4_doManyBits 6 = .ok (.iand, 1) := by decide +kernel
theorem dX4_doManyBits_7 : decode cX4_doManyBits 7 = .ok (.istore_n 2, 1) := by decide +kernel
theorem dX4_doManyBits_8 : decode cX4_doManyBits 8 = .ok (.iload_n 2, 1) := by decide +kernel
theorem dX4_doManyBits_9 : decode cX4_doManyBits 9 = .ok (.ifCond .ne 6, 3) := by decide +kernel
theorem dX4_doManyBits_12 : decode cX4_doManyBits 12 = .ok (.bipush 16, 2) := by decide +kernel
theorem dX4_doManyBits_14 : decode cX4_doManyBits 14 = .ok (.istore_n 2, 1) := by decide +kernel
theorem dX4_doManyBits_15 : decode cX4_doManyBits 15 = .ok (.iload_n 2, 1) := by decide +kernel
theorem dX4_doManyBits_16 : decode cX4_doManyBits 16 = .ok (.bipush 8, 2) := by decide +kernel
theorem dX4_doManyBits_18 : decode cX4_doManyBits 18 = .ok (.if_icmp .gt 7, 3) := by decide +kernel
theorem dX4_doManyBits_21 : decode cX4_doManyBits 21 = .ok (.iconst 1, 1) := by decide +kernel
theorem dX4_doManyBits_22 : decode cX4_doManyBits 22 = .ok (.goto 4, 3) := by decide +kernel
theorem dX4_doManyBits_25 : decode cX4_doManyBits 25 = .ok (.iconst 0, 1) := by decide +kernel
theorem dX4_doManyBits_26 : decode cX4_doManyBits 26 = .ok (.istore_n 3, 1) := by decide +kernel
theorem dX4_doManyBits_27 : decode cX4_doManyBits 27 = .ok (.aload_n 0, 1) := by decide +kernel
theorem dX4_doManyBits_28 : decode cX4_doManyBits 28 = .ok (.iload_n 1, 1) := by decide +kernel
theorem dX4_doManyBits_29 : decode cX4_doManyBits 29 = .ok (.iload_n 3, 1) := by decide +kernel
theorem dX4_doManyBits_30 : decode cX4_doManyBits 30 = .ok (.invokevirtual 89, 3) := by decide +kernel
theorem dX4_doManyBits_33 : decode cX4_doManyBits 33 = .ok (.istore 4, 2) := by decide +kernel
theorem dX4_doManyBits_35 : decode cX4_doManyBits 35 = .ok (.iload_n 3, 1) := by decide +kernel
theorem dX4_doManyBits_36 : decode cX4_doManyBits 36 = .ok (.ifCond .eq 15, 3) := by decide +kernel
theorem dX4_doManyBits_39 : decode cX4_doManyBits 39 = .ok (.aload_n 0, 1) := by decide +kernel
theorem dX4_doManyBits_40 : decode cX4_doManyBits 40 = .ok (.getfield 13, 3) := by decide +kernel
theorem dX4_doManyBits_43 : decode cX4_doManyBits 43 = .ok (.iload 4, 2) := by decide +kernel
theorem dX4_doManyBits_45 : decode cX4_doManyBits 45 = .ok (.invokevirtual 187, 3) := by decide +kernel
theorem dX4_doManyBits_48 : decode cX4_doManyBits 48 = .ok (.goto 12, 3) := by decide +kernel
theorem dX4_doManyBits_51 : decode cX4_doManyBits 51 = .ok (.aload_n 0, 1) := by decide +kernel
theorem dX4_doManyBits_52 : decode cX4_doManyBits 52 = .ok (.getfield 13, 3) := by decide +kernel
theorem dX4_doManyBits_55 : decode cX4_doManyBits 55 = .ok (.iload 4, 2) := by decide +kernel
theorem dX4_doManyBits_57 : decode cX4_doManyBits 57 = .ok (.invokevirtual 25, 3) := by decide +kernel
theorem dX4_doManyBits_60 : decode cX4_doManyBits 60 = .ok (.istore 5, 2) := by decide +kernel
theorem dX4_doManyBits_62 : decode cX4_doManyBits 62 = .ok (.aload_n 0, 1) := by decide +kernel
theorem dX4_doManyBits_63 : decode cX4_doManyBits 63 = .ok (.invokevirtual 178, 3) := by decide +kernel
theorem dX4_doManyBits_66 : decode cX4_doManyBits 66 = .ok (.istore 6, 2) := by decide +kernel
theorem dX4_doManyBits_68 : decode cX4_doManyBits 68 = .ok (.iload_n 1, 1) := by decide +kernel
theorem dX4_doManyBits_69 : decode cX4_doManyBits 69 = .ok (.sipush 13312, 3) := by decide +kernel
theorem dX4_doManyBits_72 : decode cX4_doManyBits 72 = .ok (.if_icmp .ge 15, 3) := by decide +kernel
theorem dX4_doManyBits_75 : decode cX4_doManyBits 75 = .ok (.aload_n 0, 1) := by decide +kernel
theorem dX4_doManyBits_76 : decode cX4_doManyBits 76 = .ok (.iload 6, 2) := by decide +kernel
theorem dX4_doManyBits_78 : decode cX4_doManyBits 78 = .ok (.iload_n 2, 1) := by decide +kernel
theorem dX4_doManyBits_79 : decode cX4_doManyBits 79 = .ok (.iload 5, 2) := by decide +kernel
theorem dX4_doManyBits_81 : decode cX4_doManyBits 81 = .ok (.invokevirtual 190, 3) := by decide +kernel
theorem dX4_doManyBits_84 : decode cX4_doManyBits 84 = .ok (.goto 12, 3) := by decide +kernel
theorem dX4_doManyBits_87 : decode cX4_doManyBits 87 = .ok (.aload_n 0, 1) := by decide +kernel
theorem dX4_doManyBits_88 : decode cX4_doManyBits 88 = .ok (.iload 6, 2) := by decide +kernel
theorem dX4_doManyBits_90 : decode cX4_doManyBits 90 = .ok (.iload_n 2, 1) := by decide +kernel
theorem dX4_doManyBits_91 : decode cX4_doManyBits 91 = .ok (.invokevirtual 194, 3) := by decide +kernel
theorem dX4_doManyBits_94 : decode cX4_doManyBits 94 = .ok (.istore 5, 2) := by decide +kernel
theorem dX4_doManyBits_96 : decode cX4_doManyBits 96 = .ok (.aload_n 0, 1) := by decide +kernel
theorem dX4_doManyBits_97 : decode cX4_doManyBits 97 = .ok (.iload 5, 2) := by decide +kernel
theorem dX4_doManyBits_99 : decode cX4_doManyBits 99 = .ok (.iconst 0, 1) := by decide +kernel
theorem dX4_doManyBits_100 : decode cX4_doManyBits 100 = .ok (.iload_n 3, 1) := by decide +kernel
theorem dX4_doManyBits_101 : decode cX4_doManyBits 101 = .ok (.invokevirtual 145, 3) := by decide +kernel
theorem dX4_doManyBits_104 : decode cX4_doManyBits 104 = .ok (.iload_n 3, 1) := by decide +kernel
theorem dX4_doManyBits_105 : decode cX4_doManyBits 105 = .ok (.ifCond .eq 9, 3) := by decide +kernel
theorem dX4_doManyBits_108 : decode cX4_doManyBits 108 = .ok (.aload_n 0, 1) := by decide +kernel
theorem dX4_doManyBits_109 : decode cX4_doManyBits 109 = .ok (.iload 5, 2) := by decide +kernel
theorem dX4_doManyBits_111 : decode cX4_doManyBits 111 = .ok (.invokevirtual 197, 3) := by decide +kernel
theorem dX4_doManyBits_114 : decode cX4_doManyBits 114 = .ok (.iload_n 1, 1) := by decide +kernel
theorem dX4_doManyBits_115 : decode cX4_doManyBits 115 = .ok (.sipush 13312, 3) := by decide +kernel
theorem dX4_doManyBits_118 : decode cX4_doManyBits 118 = .ok (.if_icmp .lt 12, 3) := by decide +kernel
theorem dX4_doManyBits_121 : decode cX4_doManyBits 121 = .ok (.aload_n 0, 1) := by decide +kernel
theorem dX4_doManyBits_122 : decode cX4_doManyBits 122 = .ok (.iload 4, 2) := by decide +kernel
theorem dX4_doManyBits_124 : decode cX4_doManyBits 124 = .ok (.iload 5, 2) := by decide +kernel
theorem dX4_doManyBits_126 : decode cX4_doManyBits 126 = .ok (.iload_n 3, 1) := by decide +kernel
theorem dX4_doManyBits_127 : decode cX4_doManyBits 127 = .ok (.invokevirtual 200, 3) := by decide +kernel
theorem dX4_doManyBits_130 : decode cX4_doManyBits 130 = .ok (.return_, 1) := by decide +kernel
theorem dX4_sendBits_0 : decode cX4_sendBits 0 = .ok (.iconst 0, 1) := by decide +kernel
theorem dX4_sendBits_1 : decode cX4_sendBits 1 = .ok (.istore 4, 2) := by decide +kernel
theorem dX4_sendBits_3 : decode cX4_sendBits 3 = .ok (.iload 4, 2) := by decide +kernel
theorem dX4_sendBits_5 : decode cX4_sendBits 5 = .ok (.iload_n 2, 1) := by decide +kernel
theorem dX4_sendBits_6 : decode cX4_sendBits 6 = .ok (.if_icmp .ge 28, 3) := by decide +kernel
theorem dX4_sendBits_9 : decode cX4_sendBits 9 = .ok (.aload_n 0, 1) := by decide +kernel
theorem dX4_sendBits_10 : decode cX4_sendBits 10 = .ok (.getfield 21, 3) := by decide +kernel
theorem dX4_sendBits_13 : decode cX4_sendBits 13 = .ok (.iload_n 1, 1) := by decide +kernel
theorem dX4_sendBits_14 : decode cX4_sendBits 14 = .ok (.iload 4, 2) := by decide +kernel
theorem dX4_sendBits_16 : decode cX4_sendBits 16 = .ok (.iadd, 1) := by decide +kernel
theorem dX4_sendBits_17 : decode cX4_sendBits 17 = .ok (.sipush 4095, 3) := by decide +kernel
theorem dX4_sendBits_20 : decode cX4_sendBits 20 = .ok (.iand, 1) := by decide +kernel
theorem dX4_sendBits_21 : decode cX4_sendBits 21 = .ok (.iload_n 3, 1) := by decide +kernel
theorem dX4_sendBits_22 : decode cX4_sendBits 22 = .ok (.iload 4, 2) := by decide +kernel
theorem dX4_sendBits_24 : decode cX4_sendBits 24 = .ok (.ishr, 1) := by decide +kernel
theorem dX4_sendBits_25 : decode cX4_sendBits 25 = .ok (.invokevirtual 181, 3) := by decide +kernel
theorem dX4_sendBits_28 : decode cX4_sendBits 28 = .ok (.iinc 4 1, 3) := by decide +kernel
theorem dX4_sendBits_31 : decode cX4_sendBits 31 = .ok (.goto (-28), 3) := by decide +kernel
theorem dX4_sendBits_34 : decode cX4_sendBits 34 = .ok (.return_, 1) := by decide +kernel
theorem dX4_comingBits_0 : decode cX4_comingBits 0 = .ok (.iconst 0, 1) := by decide +kernel
theorem dX4_comingBits_1 : decode cX4_comingBits 1 = .ok (.istore_n 3, 1) := by decide +kernel
theorem dX4_comingBits_2 : decode cX4_comingBits 2 = .ok (.iconst 0, 1) := by decide +kernel
theorem dX4_comingBits_3 : decode cX4_comingBits 3 = .ok (.istore 4, 2) := by decide +kernel
theorem dX4_comingBits_5 : decode cX4_comingBits 5 = .ok (.iload 4, 2) := by decide +kernel
theorem dX4_comingBits_7 : decode cX4_comingBits 7 = .ok (.iload_n 2, 1) := by decide +kernel
theorem dX4_comingBits_8 : decode cX4_comingBits 8 = .ok (.if_icmp .ge 30, 3) := by decide +kernel
theorem dX4_comingBits_11 : decode cX4_comingBits 11 = .ok (.iload_n 3, 1) := by decide +kernel
theorem dX4_comingBits_12 : decode cX4_comingBits 12 = .ok (.aload_n 0, 1) := by decide +kernel
theorem dX4_comingBits_13 : decode cX4_comingBits 13 = .ok (.getfield 21, 3) := by decide +kernel
theorem dX4_comingBits_16 : decode cX4_comingBits 16 = .ok (.iload_n 1, 1) := by decide +kernel
theorem dX4_comingBits_17 : decode cX4_comingBits 17 = .ok (.iload 4, 2) := by decide +kernel
theorem dX4_comingBits_19 : decode cX4_comingBits 19 = .ok (.iadd, 1) := by decide +kernel
theorem dX4_comingBits_20 : decode cX4_comingBits 20 = .ok (.sipush 4095, 3) := by decide +kernel
theorem dX4_comingBits_23 : decode cX4_comingBits 23 = .ok (.iand, 1) := by decide +kernel
theorem dX4_comingBits_24 : decode cX4_comingBits 24 = .ok (.invokevirtual 184, 3) := by decide +kernel
theorem dX4_comingBits_27 : decode cX4_comingBits 27 = .ok (.iload 4, 2) := by decide +kernel
theorem dX4_comingBits_29 : decode cX4_comingBits 29 = .ok (.ishl, 1) := by decide +kernel
theorem dX4_comingBits_30 : decode cX4_comingBits 30 = .ok (.ior, 1) := by decide +kernel
theorem dX4_comingBits_31 : decode cX4_comingBits 31 = .ok (.istore_n 3, 1) := by decide +kernel
theorem dX4_comingBits_32 : decode cX4_comingBits 32 = .ok (.iinc 4 1, 3) := by decide +kernel
theorem dX4_comingBits_35 : decode cX4_comingBits 35 = .ok (.goto (-30), 3) := by decide +kernel
theorem dX4_comingBits_38 : decode cX4_comingBits 38 = .ok (.iload_n 3, 1) := by decide +kernel
theorem dX4_comingBits_39 : decode cX4_comingBits 39 = .ok (.ireturn, 1) := by decide +kernel
theorem dX4_putOperand_0 : decode cX4_putOperand 0 = .ok (.iload_n 3, 1) := by decide +kernel
theorem dX4_putOperand_1 : decode cX4_putOperand 1 = .ok (.ifCond .eq 15, 3) := by decide +kernel
theorem dX4_putOperand_4 : decode cX4_putOperand 4 = .ok (.aload_n 0, 1) := by decide +kernel
theorem dX4_putOperand_5 : decode cX4_putOperand 5 = .ok (.getfield 13, 3) := by decide +kernel
theorem dX4_putOperand_8 : decode cX4_putOperand 8 = .ok (.iload_n 1, 1) := by decide +kernel
theorem dX4_putOperand_9 : decode cX4_putOperand 9 = .ok (.iload_n 2, 1) := by decide +kernel
theorem dX4_putOperand_10 : decode cX4_putOperand 10 = .ok (.invokevirtual 203, 3) := by decide +kernel
theorem dX4_putOperand_13 : decode cX4_putOperand 13 = .ok (.goto 12, 3) := by decide +kernel
theorem dX4_putOperand_16 : decode cX4_putOperand 16 = .ok (.aload_n 0, 1) := by decide +kernel
theorem dX4_putOperand_17 : decode cX4_putOperand 17 = .ok (.getfield 13, 3) := by decide +kernel
theorem dX4_putOperand_20 : decode cX4_putOperand 20 = .ok (.iload_n 1, 1) := by decide +kernel
theorem dX4_putOperand_21 : decode cX4_putOperand 21 = .ok (.iload_n 2, 1) := by decide +kernel
theorem dX4_putOperand_22 : decode cX4_putOperand 22 = .ok (.invokevirtual 131, 3) := by decide +kernel
theorem dX4_putOperand_25 : decode cX4_putOperand 25 = .ok (.return_, 1) := by decide +kernel
theorem dX4_doWithRegister_0 : decode cX4_doWithRegister 0 = .ok (.aload_n 0, 1) := by decide +kernel
theorem dX4_doWithRegister_1 : decode cX4_doWithRegister 1 = .ok (.iload_n 1, 1) := by decide +kernel
theorem dX4_doWithRegister_2 : decode cX4_doWithRegister 2 = .ok (.iconst 0, 1) := by decide +kernel
theorem dX4_doWithRegister_3 : decode cX4_doWithRegister 3 = .ok (.invokevirtual 89, 3) := by decide +kernel
theorem dX4_doWithRegister_6 : decode cX4_doWithRegister 6 = .ok (.istore_n 2, 1) := by decide +kernel
theorem dX4_doWithRegister_7 : decode cX4_doWithRegister 7 = .ok (.iload_n 1, 1) := by decide +kernel
theorem dX4_doWithRegister_8 : decode cX4_doWithRegister 8 = .ok (.ldc 206, 2) := by decide +kernel
theorem dX4_doWithRegister_10 : decode cX4_doWithRegister 10 = .ok (.iand, 1) := by decide +kernel
theorem dX4_doWithRegister_11 : decode cX4_doWithRegister 11 = .ok (.istore_n 3, 1) := by decide +kernel
theorem dX4_doWithRegister_12 : decode cX4_doWithRegister 12 = .ok (.iload_n 1, 1) := by decide +kernel
theorem dX4_doWithRegister_13 : decode cX4_doWithRegister 13 = .ok (.bipush 6, 2) := by decide +kernel
theorem dX4_doWithRegister_15 : decode cX4_doWithRegister 15 = .ok (.ishr, 1) := by decide +kernel
theorem dX4_doWithRegister_16 : decode cX4_doWithRegister 16 = .ok (.bipush 15, 2) := by decide +kernel
theorem dX4_doWithRegister_18 : decode cX4_doWithRegister 18 = .ok (.iand, 1) := by decide +kernel
theorem dX4_doWithRegister_19 : decode cX4_doWithRegister 19 = .ok (.istore 4, 2) := by decide +kernel
theorem dX4_doWithRegister_21 : decode cX4_doWithRegister 21 = .ok (.iload_n 3, 1) := by decide +kernel
theorem dX4_doWithRegister_22 : decode cX4_doWithRegister 22 = .ok (.sipush 11264, 3) := by decide +kernel
theorem dX4_doWithRegister_25 : decode cX4_doWithRegister 25 = .ok (.if_icmp .ne 37, 3) := by decide +kernel
theorem dX4_doWithRegister_28 : decode cX4_doWithRegister 28 = .ok (.aload_n 0, 1) := by decide +kernel
theorem dX4_doWithRegister_29 : decode cX4_doWithRegister 29 = .ok (.bipush 64, 2) := by decide +kernel
theorem dX4_doWithRegister_31 : decode cX4_doWithRegister 31 = .ok (.iconst 4, 1) := by decide +kernel
theorem dX4_doWithRegister_32 : decode cX4_doWithRegister 32 = .ok (.iload 4, 2) := by decide +kernel
theorem dX4_doWithRegister_34 : decode cX4_doWithRegister 34 = .ok (.imul, 1) := by decide +kernel
theorem dX4_doWithRegister_35 : decode cX4_doWithRegister 35 = .ok (.iadd, 1) := by decide +kernel
theorem dX4_doWithRegister_36 : decode cX4_doWithRegister 36 = .ok (.invokevirtual 59, 3) := by decide +kernel
theorem dX4_doWithRegister_39 : decode cX4_doWithRegister 39 = .ok (.aload_n 0, 1) := by decide +kernel
theorem dX4_doWithRegister_40 : decode cX4_doWithRegister 40 = .ok (.getfield 13, 3) := by decide +kernel
theorem dX4_doWithRegister_43 : decode cX4_doWithRegister 43 = .ok (.aload_n 0, 1) := by decide +kernel
theorem dX4_doWithRegister_44 : decode cX4_doWithRegister 44 = .ok (.bipush 11, 2) := by decide +kernel
theorem dX4_doWithRegister_46 : decode cX4_doWithRegister 46 = .ok (.invokevirtual 128, 3) := by decide +kernel
theorem dX4_doWithRegister_49 : decode cX4_doWithRegister 49 = .ok (.iload_n 2, 1) := by decide +kernel
theorem dX4_doWithRegister_50 : decode cX4_doWithRegister 50 = .ok (.invokevirtual 131, 3) := by decide +kernel
theorem dX4_doWithRegister_53 : decode cX4_doWithRegister 53 = .ok (.aload_n 0, 1) := by decide +kernel
theorem dX4_doWithRegister_54 : decode cX4_doWithRegister 54 = .ok (.sipush 512, 3) := by decide +kernel
theorem dX4_doWithRegister_57 : decode cX4_doWithRegister 57 = .ok (.iconst 1, 1) := by decide +kernel
theorem dX4_doWithRegister_58 : decode cX4_doWithRegister 58 = .ok (.invokevirtual 136, 3) := by decide +kernel
theorem dX4_doWithRegister_61 : decode cX4_doWithRegister 61 = .ok (.return_, 1) := by decide +kernel
theorem dX4_doWithRegister_62 : decode cX4_doWithRegister 62 = .ok (.aload_n 0, 1) := by decide +kernel
theorem dX4_doWithRegister_63 : decode cX4_doWithRegister 63 = .ok (.getfield 13, 3) := by decide +kernel
theorem dX4_doWithRegister_66 : decode cX4_doWithRegister 66 = .ok (.iload_n 2, 1) := by decide +kernel
theorem dX4_doWithRegister_67 : decode cX4_doWithRegister 67 = .ok (.invokevirtual 25, 3) := by decide +kernel
theorem dX4_doWithRegister_70 : decode cX4_doWithRegister 70 = .ok (.istore 5, 2) := by decide +kernel
theorem dX4_doWithRegister_72 : decode cX4_doWithRegister 72 = .ok (.aload_n 0, 1) := by decide +kernel
theorem dX4_doWithRegister_73 : decode cX4_doWithRegister 73 = .ok (.iload 4, 2) := by decide +kernel
theorem dX4_doWithRegister_75 : decode cX4_doWithRegister 75 = .ok (.invokevirtual 128, 3) := by decide +kernel
theorem dX4_doWithRegister_78 : decode cX4_doWithRegister 78 = .ok (.istore 6, 2) := by decide +kernel
theorem dX4_doWithRegister_80 : decode cX4_doWithRegister 80 = .ok (.aload_n 0, 1) := by decide +kernel
theorem dX4_doWithRegister_81 : decode cX4_doWithRegister 81 = .ok (.getfield 13, 3) := by decide +kernel
theorem dX4_doWithRegister_84 : decode cX4_doWithRegister 84 = .ok (.iload 6, 2) := by decide +kernel
theorem dX4_doWithRegister_86 : decode cX4_doWithRegister 86 = .ok (.invokevirtual 25, 3) := by decide +kernel
theorem dX4_doWithRegister_89 : decode cX4_doWithRegister 89 = .ok (.istore 7, 2) := by decide +kernel
theorem dX4_doWithRegister_91 : decode cX4_doWithRegister 91 = .ok (.iload_n 3, 1) := by decide +kernel
theorem dX4_doWithRegister_92 : decode cX4_doWithRegister 92 = .ok (.lookupswitch 112 #[(8192, 36), (9216, 61), (10240, 84)], 36) := by decide +kernel
theorem dX4_doWithRegister_128 : decode cX4_doWithRegister 128 = .ok (.aload_n 0, 1) := by decide +kernel
theorem dX4_doWithRegister_129 : decode cX4_doWithRegister 129 = .ok (.sipush 8192, 3) := by decide +kernel
theorem dX4_doWithRegister_132 : decode cX4_doWithRegister 132 = .ok (.iload 5, 2) := by decide +kernel
theorem dX4_doWithRegister_134 : decode cX4_doWithRegister 134 = .ok (.iload 7, 2) := by decide +kernel
theorem dX4_doWithRegister_136 : decode cX4_doWithRegister 136 = .ok (.iconst (-1), 1) := by decide +kernel
theorem dX4_doWithRegister_137 : decode cX4_doWithRegister 137 = .ok (.ixor, 1) := by decide +kernel
theorem dX4_doWithRegister_138 : decode cX4_doWithRegister 138 = .ok (.iand, 1) := by decide +kernel
theorem dX4_doWithRegister_139 : decode cX4_doWithRegister 139 = .ok (.ifCond .ne 7, 3) := by decide +kernel
theorem dX4_doWithRegister_142 : decode cX4_doWithRegister 142 = .ok (.iconst 1, 1) := by decide +kernel
theorem dX4_doWithRegister_143 : decode cX4_doWithRegister 143 = .ok (.goto 4, 3) := by decide +kernel
theorem dX4_doWithRegister_146 : decode cX4_doWithRegister 146 = .ok (.iconst 0, 1) := by decide +kernel
theorem dX4_doWithRegister_147 : decode cX4_doWithRegister 147 = .ok (.invokevirtual 136, 3) := by decide +kernel
theorem dX4_doWithRegister_150 : decode cX4_doWithRegister 150 = .ok (.goto 54, 3) := by decide +kernel
theorem dX4_doWithRegister_153 : decode cX4_doWithRegister 153 = .ok (.aload_n 0, 1) := by decide +kernel
theorem dX4_doWithRegister_154 : decode cX4_doWithRegister 154 = .ok (.sipush 8192, 3) := by decide +kernel
theorem dX4_doWithRegister_157 : decode cX4_doWithRegister 157 = .ok (.iload 5, 2) := by decide +kernel
theorem dX4_doWithRegister_159 : decode cX4_doWithRegister 159 = .ok (.iload 7, 2) := by decide +kernel
theorem dX4_doWithRegister_161 : decode cX4_doWithRegister 161 = .ok (.iand, 1) := by decide +kernel
theorem dX4_doWithRegister_162 : decode cX4_doWithRegister 162 = .ok (.ifCond .ne 7, 3) := by decide +kernel
theorem dX4_doWithRegister_165 : decode cX4_doWithRegister 165 = .ok (.iconst 1, 1) := by decide +kernel
theorem dX4_doWithRegister_166 : decode cX4_doWithRegister 166 = .ok (.goto 4, 3) := by decide +kernel
theorem dX4_doWithRegister_169 : decode cX4_doWithRegister 169 = .ok (.iconst 0, 1) := by decide +kernel
theorem dX4_doWithRegister_170 : decode cX4_doWithRegister 170 = .ok (.invokevirtual 136, 3) := by decide +kernel
theorem dX4_doWithRegister_173 : decode cX4_doWithRegister 173 = .ok (.goto 31, 3) := by decide +kernel
theorem dX4_doWithRegister_176 : decode cX4_doWithRegister 176 = .ok (.aload_n 0, 1) := by decide +kernel
theorem dX4_doWithRegister_177 : decode cX4_doWithRegister 177 = .ok (.iload 7, 2) := by decide +kernel
theorem dX4_doWithRegister_179 : decode cX4_doWithRegister 179 = .ok (.iload 5, 2) := by decide +kernel
theorem dX4_doWithRegister_181 : decode cX4_doWithRegister 181 = .ok (.ixor, 1) := by decide +kernel
theorem dX4_doWithRegister_182 : decode cX4_doWithRegister 182 = .ok (.iconst 0, 1) := by decide +kernel
theorem dX4_doWithRegister_183 : decode cX4_doWithRegister 183 = .ok (.iconst 0, 1) := by decide +kernel
theorem dX4_doWithRegister_184 : decode cX4_doWithRegister 184 = .ok (.invokevirtual 145, 3) := by decide +kernel
theorem dX4_doWithRegister_187 : decode cX4_doWithRegister 187 = .ok (.aload_n 0, 1) := by decide +kernel
theorem dX4_doWithRegister_188 : decode cX4_doWithRegister 188 = .ok (.getfield 13, 3) := by decide +kernel
theorem dX4_doWithRegister_191 : decode cX4_doWithRegister 191 = .ok (.iload 6, 2) := by decide +kernel
theorem dX4_doWithRegister_193 : decode cX4_doWithRegister 193 = .ok (.iload 7, 2) := by decide +kernel
theorem dX4_doWithRegister_195 : decode cX4_doWithRegister 195 = .ok (.iload 5, 2) := by decide +kernel
theorem dX4_doWithRegister_197 : decode cX4_doWithRegister 197 = .ok (.ixor, 1) := by decide +kernel
theorem dX4_doWithRegister_198 : decode cX4_doWithRegister 198 = .ok (.invokevirtual 131, 3) := by decide +kernel
theorem dX4_doWithRegister_201 : decode cX4_doWithRegister 201 = .ok (.goto 3, 3) := by decide +kernel
theorem dX4_doWithRegister_204 : decode cX4_doWithRegister 204 = .ok (.return_, 1) := by decide +kernel
theorem dX4_doLongArithmetic_0 : decode cX4_doLongArithmetic 0 = .ok (.aload_n 0, 1) := by decide +kernel
theorem dX4_doLongArithmetic_1 : decode cX4_doLongArithmetic 1 = .ok (.getfield 13, 3) := by decide +kernel
theorem dX4_doLongArithmetic_4 : decode cX4_doLongArithmetic 4 = .ok (.aload_n 0, 1) := by decide +kernel
theorem dX4_doLongArithmetic_5 : decode cX4_doLongArithmetic 5 = .ok (.iload_n 1, 1) := by decide +kernel
theorem dX4_doLongArithmetic_6 : decode cX4_doLongArithmetic 6 = .ok (.iconst 0, 1) := by decide +kernel
theorem dX4_doLongArithmetic_7 : decode cX4_doLongArithmetic 7 = .ok (.invokevirtual 89, 3) := by decide +kernel
