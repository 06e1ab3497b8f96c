theorem dX7_less_107 : decode cX7_less 107 = .ok (.if_icmp .eq 7, 3) := by decide +kernel
theorem dX7_less_110 : decode cX7_less 110 = .ok (.iconst 1, 1) := by decide +kernel
theorem dX7_less_111 : decode cX7_less 111 = .ok (.goto 4, 3) := by decide +kernel
theorem dX7_less_114 : decode cX7_less 114 = .ok (.iconst 0, 1) := by decide +kernel
theorem dX7_less_115 : decode cX7_less 115 = .ok (.invokevirtual 134, 3) := by decide +kernel
theorem dX7_less_118 : decode cX7_less 118 = .ok (.iload 5, 2) := by decide +kernel
theorem dX7_less_120 : decode cX7_less 120 = .ok (.ireturn, 1) := by decide +kernel
theorem dX7_enter_0 : decode cX7_enter 0 = .ok (.aload_n 0, 1) := by decide +kernel
theorem dX7_enter_1 : decode cX7_enter 1 = .ok (.iload_n 1, 1) := by decide +kernel
theorem dX7_enter_2 : decode cX7_enter 2 = .ok (.invokevirtual 122, 3) := by decide +kernel
theorem dX7_enter_5 : decode cX7_enter 5 = .ok (.istore_n 2, 1) := by decide +kernel
theorem dX7_enter_6 : decode cX7_enter 6 = .ok (.aload_n 0, 1) := by decide +kernel
theorem dX7_enter_7 : decode cX7_enter 7 = .ok (.iload_n 1, 1) := by decide +kernel
theorem dX7_enter_8 : decode cX7_enter 8 = .ok (.iconst 2, 1) := by decide +kernel
theorem dX7_enter_9 : decode cX7_enter 9 = .ok (.iadd, 1) := by decide +kernel
theorem dX7_enter_10 : decode cX7_enter 10 = .ok (.ldc 118, 2) := by decide +kernel
theorem dX7_enter_12 : decode cX7_enter 12 = .ok (.iand, 1) := by decide +kernel
theorem dX7_enter_13 : decode cX7_enter 13 = .ok (.invokevirtual 122, 3) := by decide +kernel
theorem dX7_enter_16 : decode cX7_enter 16 = .ok (.istore_n 3, 1) := by decide +kernel
theorem dX7_enter_17 : decode cX7_enter 17 = .ok (.aload_n 0, 1) := by decide +kernel
theorem dX7_enter_18 : decode cX7_enter 18 = .ok (.getfield 115, 3) := by decide +kernel
theorem dX7_enter_21 : decode cX7_enter 21 = .ok (.istore 4, 2) := by decide +kernel
theorem dX7_enter_23 : decode cX7_enter 23 = .ok (.aload_n 0, 1) := by decide +kernel
theorem dX7_enter_24 : decode cX7_enter 24 = .ok (.iload_n 2, 1) := by decide +kernel
theorem dX7_enter_25 : decode cX7_enter 25 = .ok (.ldc 72, 2) := by decide +kernel
theorem dX7_enter_27 : decode cX7_enter 27 = .ok (.iand, 1) := by decide +kernel
theorem dX7_enter_28 : decode cX7_enter 28 = .ok (.putfield 115, 3) := by decide +kernel
theorem dX7_enter_31 : decode cX7_enter 31 = .ok (.aload_n 0, 1) := by decide +kernel
theorem dX7_enter_32 : decode cX7_enter 32 = .ok (.bipush 13, 2) := by decide +kernel
theorem dX7_enter_34 : decode cX7_enter 34 = .ok (.iload 4, 2) := by decide +kernel
theorem dX7_enter_36 : decode cX7_enter 36 = .ok (.invokevirtual 149, 3) := by decide +kernel
theorem dX7_enter_39 : decode cX7_enter 39 = .ok (.aload_n 0, 1) := by decide +kernel
theorem dX7_enter_40 : decode cX7_enter 40 = .ok (.bipush 14, 2) := by decide +kernel
theorem dX7_enter_42 : decode cX7_enter 42 = .ok (.aload_n 0, 1) := by decide +kernel
theorem dX7_enter_43 : decode cX7_enter 43 = .ok (.getfield 128, 3) := by decide +kernel
theorem dX7_enter_46 : decode cX7_enter 46 = .ok (.invokevirtual 149, 3) := by decide +kernel
theorem dX7_enter_49 : decode cX7_enter 49 = .ok (.aload_n 0, 1) := by decide +kernel
theorem dX7_enter_50 : decode cX7_enter 50 = .ok (.bipush 15, 2) := by decide +kernel
theorem dX7_enter_52 : decode cX7_enter 52 = .ok (.aload_n 0, 1) := by decide +kernel
theorem dX7_enter_53 : decode cX7_enter 53 = .ok (.getfield 131, 3) := by decide +kernel
theorem dX7_enter_56 : decode cX7_enter 56 = .ok (.invokevirtual 149, 3) := by decide +kernel
theorem dX7_enter_59 : decode cX7_enter 59 = .ok (.aload_n 0, 1) := by decide +kernel
theorem dX7_enter_60 : decode cX7_enter 60 = .ok (.iload_n 3, 1) := by decide +kernel
theorem dX7_enter_61 : decode cX7_enter 61 = .ok (.ldc 72, 2) := by decide +kernel
theorem dX7_enter_63 : decode cX7_enter 63 = .ok (.iand, 1) := by decide +kernel
theorem dX7_enter_64 : decode cX7_enter 64 = .ok (.putfield 128, 3) := by decide +kernel
theorem dX7_enter_67 : decode cX7_enter 67 = .ok (.return_, 1) := by decide +kernel
theorem dX7_two_0 : decode cX7_two 0 = .ok (.iload_n 1, 1) := by decide +kernel
theorem dX7_two_1 : decode cX7_two 1 = .ok (.bipush 12, 2) := by decide +kernel
theorem dX7_two_3 : decode cX7_two 3 = .ok (.ishr, 1) := by decide +kernel
theorem dX7_two_4 : decode cX7_two 4 = .ok (.iconst 1, 1) := by decide +kernel
theorem dX7_two_5 : decode cX7_two 5 = .ok (.iand, 1) := by decide +kernel
theorem dX7_two_6 : decode cX7_two 6 = .ok (.iconst 1, 1) := by decide +kernel
theorem dX7_two_7 : decode cX7_two 7 = .ok (.if_icmp .ne 7, 3) := by decide +kernel
theorem dX7_two_10 : decode cX7_two 10 = .ok (.iconst 1, 1) := by decide +kernel
theorem dX7_two_11 : decode cX7_two 11 = .ok (.goto 4, 3) := by decide +kernel
theorem dX7_two_14 : decode cX7_two 14 = .ok (.iconst 0, 1) := by decide +kernel
theorem dX7_two_15 : decode cX7_two 15 = .ok (.istore_n 2, 1) := by decide +kernel
theorem dX7_two_16 : decode cX7_two 16 = .ok (.aload_n 0, 1) := by decide +kernel
theorem dX7_two_17 : decode cX7_two 17 = .ok (.aload_n 0, 1) := by decide +kernel
theorem dX7_two_18 : decode cX7_two 18 = .ok (.iload_n 1, 1) := by decide +kernel
theorem dX7_two_19 : decode cX7_two 19 = .ok (.bipush 63, 2) := by decide +kernel
theorem dX7_two_21 : decode cX7_two 21 = .ok (.iand, 1) := by decide +kernel
theorem dX7_two_22 : decode cX7_two 22 = .ok (.iload_n 2, 1) := by decide +kernel
theorem dX7_two_23 : decode cX7_two 23 = .ok (.invokevirtual 155, 3) := by decide +kernel
theorem dX7_two_26 : decode cX7_two 26 = .ok (.iload_n 2, 1) := by decide +kernel
theorem dX7_two_27 : decode cX7_two 27 = .ok (.invokevirtual 158, 3) := by decide +kernel
theorem dX7_two_30 : decode cX7_two 30 = .ok (.istore_n 3, 1) := by decide +kernel
theorem dX7_two_31 : decode cX7_two 31 = .ok (.iload_n 2, 1) := by decide +kernel
theorem dX7_two_32 : decode cX7_two 32 = .ok (.ifCond .eq 9, 3) := by decide +kernel
theorem dX7_two_35 : decode cX7_two 35 = .ok (.iload_n 3, 1) := by decide +kernel
theorem dX7_two_36 : decode cX7_two 36 = .ok (.sipush 255, 3) := by decide +kernel
theorem dX7_two_39 : decode cX7_two 39 = .ok (.iand, 1) := by decide +kernel
theorem dX7_two_40 : decode cX7_two 40 = .ok (.istore_n 3, 1) := by decide +kernel
theorem dX7_two_41 : decode cX7_two 41 = .ok (.aload_n 0, 1) := by decide +kernel
theorem dX7_two_42 : decode cX7_two 42 = .ok (.iload_n 1, 1) := by decide +kernel
theorem dX7_two_43 : decode cX7_two 43 = .ok (.bipush 6, 2) := by decide +kernel
theorem dX7_two_45 : decode cX7_two 45 = .ok (.ishr, 1) := by decide +kernel
theorem dX7_two_46 : decode cX7_two 46 = .ok (.bipush 63, 2) := by decide +kernel
theorem dX7_two_48 : decode cX7_two 48 = .ok (.iand, 1) := by decide +kernel
theorem dX7_two_49 : decode cX7_two 49 = .ok (.iload_n 2, 1) := by decide +kernel
theorem dX7_two_50 : decode cX7_two 50 = .ok (.invokevirtual 155, 3) := by decide +kernel
theorem dX7_two_53 : decode cX7_two 53 = .ok (.istore 4, 2) := by decide +kernel
theorem dX7_two_55 : decode cX7_two 55 = .ok (.aload_n 0, 1) := by decide +kernel
theorem dX7_two_56 : decode cX7_two 56 = .ok (.iload 4, 2) := by decide +kernel
theorem dX7_two_58 : decode cX7_two 58 = .ok (.iload_n 2, 1) := by decide +kernel
theorem dX7_two_59 : decode cX7_two 59 = .ok (.invokevirtual 158, 3) := by decide +kernel
theorem dX7_two_62 : decode cX7_two 62 = .ok (.istore 5, 2) := by decide +kernel
theorem dX7_two_64 : decode cX7_two 64 = .ok (.iload 5, 2) := by decide +kernel
theorem dX7_two_66 : decode cX7_two 66 = .ok (.istore 6, 2) := by decide +kernel
theorem dX7_two_68 : decode cX7_two 68 = .ok (.iload_n 1, 1) := by decide +kernel
theorem dX7_two_69 : decode cX7_two 69 = .ok (.bipush 13, 2) := by decide +kernel
theorem dX7_two_71 : decode cX7_two 71 = .ok (.ishr, 1) := by decide +kernel
theorem dX7_two_72 : decode cX7_two 72 = .ok (.bipush 7, 2) := by decide +kernel
theorem dX7_two_74 : decode cX7_two 74 = .ok (.iand, 1) := by decide +kernel
theorem dX7_two_75 : decode cX7_two 75 = .ok (.istore 7, 2) := by decide +kernel
theorem dX7_two_77 : decode cX7_two 77 = .ok (.iload 7, 2) := by decide +kernel
theorem dX7_two_79 : decode cX7_two 79 = .ok (.tableswitch 87 2 6 #[33, 44, 57, 68, 81], 33) := by decide +kernel
theorem dX7_two_112 : decode cX7_two 112 = .ok (.iload 5, 2) := by decide +kernel
theorem dX7_two_114 : decode cX7_two 114 = .ok (.iload_n 3, 1) := by decide +kernel
theorem dX7_two_115 : decode cX7_two 115 = .ok (.iconst (-1), 1) := by decide +kernel
theorem dX7_two_116 : decode cX7_two 116 = .ok (.ixor, 1) := by decide +kernel
theorem dX7_two_117 : decode cX7_two 117 = .ok (.iand, 1) := by decide +kernel
theorem dX7_two_118 : decode cX7_two 118 = .ok (.istore 6, 2) := by decide +kernel
theorem dX7_two_120 : decode cX7_two 120 = .ok (.goto 52, 3) := by decide +kernel
theorem dX7_two_123 : decode cX7_two 123 = .ok (.aload_n 0, 1) := by decide +kernel
theorem dX7_two_124 : decode cX7_two 124 = .ok (.iload 5, 2) := by decide +kernel
theorem dX7_two_126 : decode cX7_two 126 = .ok (.iload_n 3, 1) := by decide +kernel
theorem dX7_two_127 : decode cX7_two 127 = .ok (.iload_n 2, 1) := by decide +kernel
theorem dX7_two_128 : decode cX7_two 128 = .ok (.invokevirtual 161, 3) := by decide +kernel
theorem dX7_two_131 : decode cX7_two 131 = .ok (.istore 6, 2) := by decide +kernel
theorem dX7_two_133 : decode cX7_two 133 = .ok (.goto 39, 3) := by decide +kernel
theorem dX7_two_136 : decode cX7_two 136 = .ok (.aload_n 0, 1) := by decide +kernel
theorem dX7_two_137 : decode cX7_two 137 = .ok (.iload_n 3, 1) := by decide +kernel
theorem dX7_two_138 : decode cX7_two 138 = .ok (.iload 5, 2) := by decide +kernel
theorem dX7_two_140 : decode cX7_two 140 = .ok (.iload_n 2, 1) := by decide +kernel
theorem dX7_two_141 : decode cX7_two 141 = .ok (.invokevirtual 151, 3) := by decide +kernel
theorem dX7_two_144 : decode cX7_two 144 = .ok (.goto 28, 3) := by decide +kernel
theorem dX7_two_147 : decode cX7_two 147 = .ok (.aload_n 0, 1) := by decide +kernel
theorem dX7_two_148 : decode cX7_two 148 = .ok (.iload 5, 2) := by decide +kernel
theorem dX7_two_150 : decode cX7_two 150 = .ok (.iload_n 3, 1) := by decide +kernel
theorem dX7_two_151 : decode cX7_two 151 = .ok (.iload_n 2, 1) := by decide +kernel
theorem dX7_two_152 : decode cX7_two 152 = .ok (.invokevirtual 165, 3) := by decide +kernel
theorem dX7_two_155 : decode cX7_two 155 = .ok (.istore 6, 2) := by decide +kernel
theorem dX7_two_157 : decode cX7_two 157 = .ok (.goto 15, 3) := by decide +kernel
theorem dX7_two_160 : decode cX7_two 160 = .ok (.iload_n 3, 1) := by decide +kernel
theorem dX7_two_161 : decode cX7_two 161 = .ok (.istore 6, 2) := by decide +kernel
theorem dX7_two_163 : decode cX7_two 163 = .ok (.goto 9, 3) := by decide +kernel
theorem dX7_two_166 : decode cX7_two 166 = .ok (.iload 5, 2) := by decide +kernel
theorem dX7_two_168 : decode cX7_two 168 = .ok (.iload_n 3, 1) := by decide +kernel
theorem dX7_two_169 : decode cX7_two 169 = .ok (.ior, 1) := by decide +kernel
theorem dX7_two_170 : decode cX7_two 170 = .ok (.istore 6, 2) := by decide +kernel
theorem dX7_two_172 : decode cX7_two 172 = .ok (.iload 7, 2) := by decide +kernel
theorem dX7_two_174 : decode cX7_two 174 = .ok (.iconst 2, 1) := by decide +kernel
theorem dX7_two_175 : decode cX7_two 175 = .ok (.if_icmp .eq 10, 3) := by decide +kernel
theorem dX7_two_178 : decode cX7_two 178 = .ok (.iload 7, 2) := by decide +kernel
theorem dX7_two_180 : decode cX7_two 180 = .ok (.bipush 6, 2) := by decide +kernel
theorem dX7_two_182 : decode cX7_two 182 = .ok (.if_icmp .lt 11, 3) := by decide +kernel
theorem dX7_two_185 : decode cX7_two 185 = .ok (.aload_n 0, 1) := by decide +kernel
theorem dX7_two_186 : decode cX7_two 186 = .ok (.iload 6, 2) := by decide +kernel
theorem dX7_two_188 : decode cX7_two 188 = .ok (.iconst 0, 1) := by decide +kernel
theorem dX7_two_189 : decode cX7_two 189 = .ok (.iload_n 2, 1) := by decide +kernel
theorem dX7_two_190 : decode cX7_two 190 = .ok (.invokevirtual 151, 3) := by decide +kernel
theorem dX7_two_193 : decode cX7_two 193 = .ok (.iload_n 2, 1) := by decide +kernel
theorem dX7_two_194 : decode cX7_two 194 = .ok (.ifCond .eq 19, 3) := by decide +kernel
theorem dX7_two_197 : decode cX7_two 197 = .ok (.aload_n 0, 1) := by decide +kernel
theorem dX7_two_198 : decode cX7_two 198 = .ok (.iload 7, 2) := by decide +kernel
theorem dX7_two_200 : decode cX7_two 200 = .ok (.iconst 4, 1) := by decide +kernel
theorem dX7_two_201 : decode cX7_two 201 = .ok (.if_icmp .ne 7, 3) := by decide +kernel
theorem dX7_two_204 : decode cX7_two 204 = .ok (.iload_n 3, 1) := by decide +kernel
theorem dX7_two_205 : decode cX7_two 205 = .ok (.goto 5, 3) := by decide +kernel
theorem dX7_two_208 : decode cX7_two 208 = .ok (.iload 6, 2) := by decide +kernel
theorem dX7_two_210 : decode cX7_two 210 = .ok (.invokevirtual 168, 3) := by decide +kernel
theorem dX7_two_213 : decode cX7_two 213 = .ok (.iload 7, 2) := by decide +kernel
theorem dX7_two_215 : decode cX7_two 215 = .ok (.iconst 4, 1) := by decide +kernel
theorem dX7_two_216 : decode cX7_two 216 = .ok (.if_icmp .eq 12, 3) := by decide +kernel
theorem dX7_two_219 : decode cX7_two 219 = .ok (.aload_n 0, 1) := by decide +kernel
theorem dX7_two_220 : decode cX7_two 220 = .ok (.iload 4, 2) := by decide +kernel
theorem dX7_two_222 : decode cX7_two 222 = .ok (.iload 6, 2) := by decide +kernel
theorem dX7_two_224 : decode cX7_two 224 = .ok (.iload_n 2, 1) := by decide +kernel
theorem dX7_two_225 : decode cX7_two 225 = .ok (.invokevirtual 171, 3) := by decide +kernel
theorem dX7_two_228 : decode cX7_two 228 = .ok (.iconst 1, 1) := by decide +kernel
theorem dX7_two_229 : decode cX7_two 229 = .ok (.ireturn, 1) := by decide +kernel
theorem dX7_base_0 : decode cX7_base 0 = .ok (.aload_n 0, 1) := by decide +kernel
theorem dX7_base_1 : decode cX7_base 1 = .ok (.bipush 12, 2) := by decide +kernel
theorem dX7_base_3 : decode cX7_base 3 = .ok (.invokevirtual 146, 3) := by decide +kernel
theorem dX7_base_6 : decode cX7_base 6 = .ok (.iconst 2, 1) := by decide +kernel
theorem dX7_base_7 : decode cX7_base 7 = .ok (.idiv, 1) := by decide +kernel
theorem dX7_base_8 : decode cX7_base 8 = .ok (.sipush 4096, 3) := by decide +kernel
theorem dX7_base_11 : decode cX7_base 11 = .ok (.irem, 1) := by decide +kernel
theorem dX7_base_12 : decode cX7_base 12 = .ok (.ireturn, 1) := by decide +kernel
theorem dX7_withRegister_0 : decode cX7_withRegister 0 = .ok (.iload_n 1, 1) := by decide +kernel
theorem dX7_withRegister_1 : decode cX7_withRegister 1 = .ok (.bipush 6, 2) := by decide +kernel
theorem dX7_withRegister_3 : decode cX7_withRegister 3 = .ok (.ishr, 1) := by decide +kernel
theorem dX7_withRegister_4 : decode cX7_withRegister 4 = .ok (.bipush 15, 2) := by decide +kernel
theorem dX7_withRegister_6 : decode cX7_withRegister 6 = .ok (.iand, 1) := by decide +kernel
theorem dX7_withRegister_7 : decode cX7_withRegister 7 = .ok (.istore_n 2, 1) := by decide +kernel
theorem dX7_withRegister_8 : decode cX7_withRegister 8 = .ok (.iload_n 1, 1) := by decide +kernel
theorem dX7_withRegister_9 : decode cX7_withRegister 9 = .ok (.bipush 10, 2) := by decide +kernel
theorem dX7_withRegister_11 : decode cX7_withRegister 11 = .ok (.ishr, 1) := by decide +kernel
theorem dX7_withRegister_12 : decode cX7_withRegister 12 = .ok (.bipush 7, 2) := by decide +kernel
theorem dX7_withRegister_14 : decode cX7_withRegister 14 = .ok (.iand, 1) := by decide +kernel
theorem dX7_withRegister_15 : decode cX7_withRegister 15 = .ok (.istore_n 3, 1) := by decide +kernel
theorem dX7_withRegister_16 : decode cX7_withRegister 16 = .ok (.iload_n 3, 1) := by decide +kernel
theorem dX7_withRegister_17 : decode cX7_withRegister 17 = .ok (.iconst 4, 1) := by decide +kernel
theorem dX7_withRegister_18 : decode cX7_withRegister 18 = .ok (.if_icmp .eq 8, 3) := by decide +kernel
theorem dX7_withRegister_21 : decode cX7_withRegister 21 = .ok (.iload_n 3, 1) := by decide +kernel
theorem dX7_withRegister_22 : decode cX7_withRegister 22 = .ok (.iconst 5, 1) := by decide +kernel
theorem dX7_withRegister_23 : decode cX7_withRegister 23 = .ok (.if_icmp .ne 30, 3) := by decide +kernel
theorem dX7_withRegister_26 : decode cX7_withRegister 26 = .ok (.aload_n 0, 1) := by decide +kernel
theorem dX7_withRegister_27 : decode cX7_withRegister 27 = .ok (.iload_n 1, 1) := by decide +kernel
theorem dX7_withRegister_28 : decode cX7_withRegister 28 = .ok (.iload_n 2, 1) := by decide +kernel
theorem dX7_withRegister_29 : decode cX7_withRegister 29 = .ok (.ifCond .ne 8, 3) := by decide +kernel
theorem dX7_withRegister_32 : decode cX7_withRegister 32 = .ok (.bipush 16, 2) := by decide +kernel
theorem dX7_withRegister_34 : decode cX7_withRegister 34 = .ok (.goto 4, 3) := by decide +kernel
theorem dX7_withRegister_37 : decode cX7_withRegister 37 = .ok (.iload_n 2, 1) := by decide +kernel
theorem dX7_withRegister_38 : decode cX7_withRegister 38 = .ok (.iload_n 3, 1) := by decide +kernel
theorem dX7_withRegister_39 : decode cX7_withRegister 39 = .ok (.iconst 4, 1) := by decide +kernel
theorem dX7_withRegister_40 : decode cX7_withRegister 40 = .ok (.if_icmp .ne 7, 3) := by decide +kernel
theorem dX7_withRegister_43 : decode cX7_withRegister 43 = .ok (.iconst 1, 1) := by decide +kernel
theorem dX7_withRegister_44 : decode cX7_withRegister 44 = .ok (.goto 4, 3) := by decide +kernel
theorem dX7_withRegister_47 : decode cX7_withRegister 47 = .ok (.iconst 0, 1) := by decide +kernel
theorem dX7_withRegister_48 : decode cX7_withRegister 48 = .ok (.invokevirtual 174, 3) := by decide +kernel
theorem dX7_withRegister_51 : decode cX7_withRegister 51 = .ok (.iconst 1, 1) := by decide +kernel
theorem dX7_withRegister_52 : decode cX7_withRegister 52 = .ok (.ireturn, 1) := by decide +kernel
theorem dX7_withRegister_53 : decode cX7_withRegister 53 = .ok (.aload_n 0, 1) := by decide +kernel
theorem dX7_withRegister_54 : decode cX7_withRegister 54 = .ok (.iload_n 1, 1) := by decide +kernel
theorem dX7_withRegister_55 : decode cX7_withRegister 55 = .ok (.bipush 63, 2) := by decide +kernel
theorem dX7_withRegister_57 : decode cX7_withRegister 57 = .ok (.iand, 1) := by decide +kernel
theorem dX7_withRegister_58 : decode cX7_withRegister 58 = .ok (.iconst 0, 1) := by decide +kernel
theorem dX7_withRegister_59 : decode cX7_withRegister 59 = .ok (.invokevirtual 155, 3) := by decide +kernel
theorem dX7_withRegister_62 : decode cX7_withRegister 62 = .ok (.istore 4, 2) := by decide +kernel
theorem dX7_withRegister_64 : decode cX7_withRegister 64 = .ok (.iload_n 3, 1) := by decide +kernel
theorem dX7_withRegister_65 : decode cX7_withRegister 65 = .ok (.iconst 3, 1) := by decide +kernel
theorem dX7_withRegister_66 : decode cX7_withRegister 66 = .ok (.if_icmp .ne 36, 3) := by decide +kernel
theorem dX7_withRegister_69 : decode cX7_withRegister 69 = .ok (.aload_n 0, 1) := by decide +kernel
theorem dX7_withRegister_70 : decode cX7_withRegister 70 = .ok (.bipush 64, 2) := by decide +kernel
theorem dX7_withRegister_72 : decode cX7_withRegister 72 = .ok (.iconst 4, 1) := by decide +kernel
theorem dX7_withRegister_73 : decode cX7_withRegister 73 = .ok (.iload_n 2, 1) := by decide +kernel
theorem dX7_withRegister_74 : decode cX7_withRegister 74 = .ok (.imul, 1) := by decide +kernel
theorem dX7_withRegister_75 : decode cX7_withRegister 75 = .ok (.iadd, 1) := by decide +kernel
theorem dX7_withRegister_76 : decode cX7_withRegister 76 = .ok (.invokevirtual 177, 3) := by decide +kernel
theorem dX7_withRegister_79 : decode cX7_withRegister 79 = .ok (.aload_n 0, 1) := by decide +kernel
theorem dX7_withRegister_80 : decode cX7_withRegister 80 = .ok (.bipush 11, 2) := by decide +kernel
theorem dX7_withRegister_82 : decode cX7_withRegister 82 = .ok (.iload 4, 2) := by decide +kernel
theorem dX7_withRegister_84 : decode cX7_withRegister 84 = .ok (.invokevirtual 149, 3) := by decide +kernel
theorem dX7_withRegister_87 : decode cX7_withRegister 87 = .ok (.aload_n 0, 1) := by decide +kernel
theorem dX7_withRegister_88 : decode cX7_withRegister 88 = .ok (.sipush 512, 3) := by decide +kernel
theorem dX7_withRegister_91 : decode cX7_withRegister 91 = .ok (.iconst 1, 1) := by decide +kernel
theorem dX7_withRegister_92 : decode cX7_withRegister 92 = .ok (.invokevirtual 134, 3) := by decide +kernel
theorem dX7_withRegister_95 : decode cX7_withRegister 95 = .ok (.aload_n 0, 1) := by decide +kernel
theorem dX7_withRegister_96 : decode cX7_withRegister 96 = .ok (.iconst 1, 1) := by decide +kernel
theorem dX7_withRegister_97 : decode cX7_withRegister 97 = .ok (.putfield 180, 3) := by decide +kernel
theorem dX7_withRegister_100 : decode cX7_withRegister 100 = .ok (.iconst 1, 1) := by decide +kernel
theorem dX7_withRegister_101 : decode cX7_withRegister 101 = .ok (.ireturn, 1) := by decide +kernel
theorem dX7_withRegister_102 : decode cX7_withRegister 102 = .ok (.aload_n 0, 1) := by decide +kernel
theorem dX7_withRegister_103 : decode cX7_withRegister 103 = .ok (.iload 4, 2) := by decide +kernel
theorem dX7_withRegister_105 : decode cX7_withRegister 105 = .ok (.invokevirtual 122, 3) := by decide +kernel
theorem dX7_withRegister_108 : decode cX7_withRegister 108 = .ok (.istore 5, 2) := by decide +kernel
theorem dX7_withRegister_110 : decode cX7_withRegister 110 = .ok (.aload_n 0, 1) := by decide +kernel
theorem dX7_withRegister_111 : decode cX7_withRegister 111 = .ok (.iload_n 2, 1) := by decide +kernel
theorem dX7_withRegister_112 : decode cX7_withRegister 112 = .ok (.invokevirtual 146, 3) := by decide +kernel
theorem dX7_withRegister_115 : decode cX7_withRegister 115 = .ok (.istore 6, 2) := by decide +kernel
theorem dX7_withRegister_117 : decode cX7_withRegister 117 = .ok (.iload_n 3, 1) := by decide +kernel
theorem dX7_withRegister_118 : decode cX7_withRegister 118 = .ok (.tableswitch 155 0 6 #[42, 67, 90, 155, 155, 155, 114], 42) := by decide +kernel
theorem dX7_withRegister_160 : decode cX7_withRegister 160 = .ok (.aload_n 0, 1) := by decide +kernel
theorem dX7_withRegister_161 : decode cX7_withRegister 161 = .ok (.sipush 8192, 3) := by decide +kernel
theorem dX7_withRegister_164 : decode cX7_withRegister 164 = .ok (.iload 5, 2) := by decide +kernel
theorem dX7_withRegister_166 : decode cX7_withRegister 166 = .ok (.iload 6, 2) := by decide +kernel
theorem dX7_withRegister_168 : decode cX7_withRegister 168 = .ok (.iconst (-1), 1) := by decide +kernel
theorem dX7_withRegister_169 : decode cX7_withRegister 169 = .ok (.ixor, 1) := by decide +kernel
theorem dX7_withRegister_170 : decode cX7_withRegister 170 = .ok (.iand, 1) := by decide +kernel
theorem dX7_withRegister_171 : decode cX7_withRegister 171 = .ok (.ifCond .ne 7, 3) := by decide +kernel
theorem dX7_withRegister_174 : decode cX7_withRegister 174 = .ok (.iconst 1, 1) := by decide +kernel
theorem dX7_withRegister_175 : decode cX7_withRegister 175 = .ok (.goto 4, 3) := by decide +kernel
theorem dX7_withRegister_178 : decode cX7_withRegister 178 = .ok (.iconst 0, 1) := by decide +kernel
theorem dX7_withRegister_179 : decode cX7_withRegister 179 = .ok (.invokevirtual 134, 3) := by decide +kernel
theorem dX7_withRegister_182 : decode cX7_withRegister 182 = .ok (.goto 100, 3) := by decide +kernel
theorem dX7_withRegister_185 : decode cX7_withRegister 185 = .ok (.aload_n 0, 1) := by decide +kernel
theorem dX7_withRegister_186 : decode cX7_withRegister 186 = .ok (.sipush 8192, 3) := by decide +kernel
theorem dX7_withRegister_189 : decode cX7_withRegister 189 = .ok (.iload 5, 2) := by decide +kernel
theorem dX7_withRegister_191 : decode cX7_withRegister 191 = .ok (.iload 6, 2) := by decide +kernel
theorem dX7_withRegister_193 : decode cX7_withRegister 193 = .ok (.iand, 1) := by decide +kernel
theorem dX7_withRegister_194 : decode cX7_withRegister 194 = .ok (.ifCond .ne 7, 3) := by decide +kernel
theorem dX7_withRegister_197 : decode cX7_withRegister 197 = .ok (.iconst 1, 1) := by decide +kernel
theorem dX7_withRegister_198 : decode cX7_withRegister 198 = .ok (.goto 4, 3) := by decide +kernel
theorem dX7_withRegister_201 : decode cX7_withRegister 201 = .ok (.iconst 0, 1) := by decide +kernel
theorem dX7_withRegister_202 : decode cX7_withRegister 202 = .ok (.invokevirtual 134, 3) := by decide +kernel
theorem dX7_withRegister_205 : decode cX7_withRegister 205 = .ok (.goto 77, 3) := by decide +kernel
theorem dX7_withRegister_208 : decode cX7_withRegister 208 = .ok (.aload_n 0, 1) := by decide +kernel
theorem dX7_withRegister_209 : decode cX7_withRegister 209 = .ok (.iload_n 2, 1) := by decide +kernel
theorem dX7_withRegister_210 : decode cX7_withRegister 210 = .ok (.iload 5, 2) := by decide +kernel
theorem dX7_withRegister_212 : decode cX7_withRegister 212 = .ok (.iload 6, 2) := by decide +kernel
theorem dX7_withRegister_214 : decode cX7_withRegister 214 = .ok (.ixor, 1) := by decide +kernel
theorem dX7_withRegister_215 : decode cX7_withRegister 215 = .ok (.invokevirtual 149, 3) := by decide +kernel
theorem dX7_withRegister_218 : decode cX7_withRegister 218 = .ok (.aload_n 0, 1) := by decide +kernel
theorem dX7_withRegister_219 : decode cX7_withRegister 219 = .ok (.iload 5, 2) := by decide +kernel
theorem dX7_withRegister_221 : decode cX7_withRegister 221 = .ok (.iload 6, 2) := by decide +kernel
theorem dX7_withRegister_223 : decode cX7_withRegister 223 = .ok (.ixor, 1) := by decide +kernel
theorem dX7_withRegister_224 : decode cX7_withRegister 224 = .ok (.iconst 0, 1) := by decide +kernel
theorem dX7_withRegister_225 : decode cX7_withRegister 225 = .ok (.iconst 0, 1) := by decide +kernel
theorem dX7_withRegister_226 : decode cX7_withRegister 226 = .ok (.invokevirtual 151, 3) := by decide +kernel
theorem dX7_withRegister_229 : decode cX7_withRegister 229 = .ok (.goto 53, 3) := by decide +kernel
theorem dX7_withRegister_232 : decode cX7_withRegister 232 = .ok (.iload 5, 2) := by decide +kernel
theorem dX7_withRegister_234 : decode cX7_withRegister 234 = .ok (.i2l, 1) := by decide +kernel
theorem dX7_withRegister_235 : decode cX7_withRegister 235 = .ok (.iload 6, 2) := by decide +kernel
theorem dX7_withRegister_237 : decode cX7_withRegister 237 = .ok (.i2l, 1) := by decide +kernel
theorem dX7_withRegister_238 : decode cX7_withRegister 238 = .ok (.lmul, 1) := by decide +kernel
theorem dX7_withRegister_239 : decode cX7_withRegister 239 = .ok (.lstore 7, 2) := by decide +kernel
theorem dX7_withRegister_241 : decode cX7_withRegister 241 = .ok (.aload_n 0, 1) := by decide +kernel
theorem dX7_withRegister_242 : decode cX7_withRegister 242 = .ok (.iload_n 2, 1) := by decide +kernel
theorem dX7_withRegister_243 : decode cX7_withRegister 243 = .ok (.lload 7, 2) := by decide +kernel
theorem dX7_withRegister_245 : decode cX7_withRegister 245 = .ok (.bipush 16, 2) := by decide +kernel
theorem dX7_withRegister_247 : decode cX7_withRegister 247 = .ok (.lshr, 1) := by decide +kernel
theorem dX7_withRegister_248 : decode cX7_withRegister 248 = .ok (.l2i, 1) := by decide +kernel
theorem dX7_withRegister_249 : decode cX7_withRegister 249 = .ok (.invokevirtual 149, 3) := by decide +kernel
theorem dX7_withRegister_252 : decode cX7_withRegister 252 = .ok (.aload_n 0, 1) := by decide +kernel
theorem dX7_withRegister_253 : decode cX7_withRegister 253 = .ok (.aload_n 0, 1) := by decide +kernel
theorem dX7_withRegister_254 : decode cX7_withRegister 254 = .ok (.iload_n 2, 1) := by decide +kernel
theorem dX7_withRegister_255 : decode cX7_withRegister 255 = .ok (.iconst 1, 1) := by decide +kernel
theorem dX7_withRegister_256 : decode cX7_withRegister 256 = .ok (.iadd, 1) := by decide +kernel
theorem dX7_withRegister_257 : decode cX7_withRegister 257 = .ok (.invokevirtual 119, 3) := by decide +kernel
theorem dX7_withRegister_260 : decode cX7_withRegister 260 = .ok (.lload 7, 2) := by decide +kernel
theorem dX7_withRegister_262 : decode cX7_withRegister 262 = .ok (.ldc2_w 183, 3) := by decide +kernel
theorem dX7_withRegister_265 : decode cX7_withRegister 265 = .ok (.land, 1) := by decide +kernel
theorem dX7_withRegister_266 : decode cX7_withRegister 266 = .ok (.l2i, 1) := by decide +kernel
theorem dX7_withRegister_267 : decode cX7_withRegister 267 = .ok (.invokevirtual 125, 3) := by decide +kernel
theorem dX7_withRegister_270 : decode cX7_withRegister 270 = .ok (.goto 12, 3) := by decide +kernel
theorem dX7_withRegister_273 : decode cX7_withRegister 273 = .ok (.aload_n 0, 1) := by decide +kernel
theorem dX7_withRegister_274 : decode cX7_withRegister 274 = .ok (.iload_n 2, 1) := by decide +kernel
theorem dX7_withRegister_275 : decode cX7_withRegister 275 = .ok (.iload 5, 2) := by decide +kernel
theorem dX7_withRegister_277 : decode cX7_withRegister 277 = .ok (.iload 6, 2) := by decide +kernel
theorem dX7_withRegister_279 : decode cX7_withRegister 279 = .ok (.invokevirtual 185, 3) := by decide +kernel
theorem dX7_withRegister_282 : decode cX7_withRegister 282 = .ok (.iconst 1, 1) := by decide +kernel
theorem dX7_withRegister_283 : decode cX7_withRegister 283 = .ok (.ireturn, 1) := by decide +kernel
theorem dX7_divide_0 : decode cX7_divide 0 = .ok (.aload_n 0, 1) := by decide +kernel
theorem dX7_divide_1 : decode cX7_divide 1 = .ok (.sipush 2048, 3) := by decide +kernel
theorem dX7_divide_4 : decode cX7_divide 4 = .ok (.iload_n 2, 1) := by decide +kernel
theorem dX7_divide_5 : decode cX7_divide 5 = .ok (.iload_n 3, 1) := by decide +kernel
theorem dX7_divide_6 : decode cX7_divide 6 = .ok (.if_icmp .gt 7, 3) := by decide +kernel
theorem dX7_divide_9 : decode cX7_divide 9 = .ok (.iconst 1, 1) := by decide +kernel
theorem dX7_divide_10 : decode cX7_divide 10 = .ok (.goto 4, 3) := by decide +kernel
theorem dX7_divide_13 : decode cX7_divide 13 = .ok (.iconst 0, 1) := by decide +kernel
theorem dX7_divide_14 : decode cX7_divide 14 = .ok (.invokevirtual 134, 3) := by decide +kernel
theorem dX7_divide_17 : decode cX7_divide 17 = .ok (.iload_n 2, 1) := by decide +kernel
theorem dX7_divide_18 : decode cX7_divide 18 = .ok (.iload_n 3, 1) := by decide +kernel
theorem dX7_divide_19 : decode cX7_divide 19 = .ok (.if_icmp .gt 4, 3) := by decide +kernel
theorem dX7_divide_22 : decode cX7_divide 22 = .ok (.return_, 1) := by decide +kernel
theorem dX7_divide_23 : decode cX7_divide 23 = .ok (.ldc2_w 188, 3) := by decide +kernel
theorem dX7_divide_26 : decode cX7_divide 26 = .ok (.iload_n 3, 1) := by decide +kernel
theorem dX7_divide_27 : decode cX7_divide 27 = .ok (.i2l, 1) := by decide +kernel
theorem dX7_divide_28 : decode cX7_divide 28 = .ok (.lmul, 1) := by decide +kernel
theorem dX7_divide_29 : decode cX7_divide 29 = .ok (.aload_n 0, 1) := by decide +kernel
theorem dX7_divide_30 : decode cX7_divide 30 = .ok (.aload_n 0, 1) := by decide +kernel
theorem dX7_divide_31 : decode cX7_divide 31 = .ok (.iload_n 1, 1) := by decide +kernel
theorem dX7_divide_32 : decode cX7_divide 32 = .ok (.iconst 1, 1) := by decide +kernel
theorem dX7_divide_33 : decode cX7_divide 33 = .ok (.iadd, 1) := by decide +kernel
theorem dX7_divide_34 : decode cX7_divide 34 = .ok (.invokevirtual 119, 3) := by decide +kernel
theorem dX7_divide_37 : decode cX7_divide 37 = .ok (.invokevirtual 122, 3) := by decide +kernel
theorem dX7_divide_40 : decode cX7_divide 40 = .ok (.i2l, 1) := by decide +kernel
theorem dX7_divide_41 : decode cX7_divide 41 = .ok (.ladd, 1) := by decide +kernel
theorem dX7_divide_42 : decode cX7_divide 42 = .ok (.lstore 4, 2) := by decide +kernel
theorem dX7_divide_44 : decode cX7_divide 44 = .ok (.aload_n 0, 1) := by decide +kernel
theorem dX7_divide_45 : decode cX7_divide 45 = .ok (.iload_n 1, 1) := by decide +kernel
theorem dX7_divide_46 : decode cX7_divide 46 = .ok (.lload 4, 2) := by decide +kernel
theorem dX7_divide_48 : decode cX7_divide 48 = .ok (.iload_n 2, 1) := by decide +kernel
theorem dX7_divide_49 : decode cX7_divide 49 = .ok (.i2l, 1) := by decide +kernel
theorem dX7_divide_50 : decode cX7_divide 50 = .ok (.ldiv, 1) := by decide +kernel
theorem dX7_divide_51 : decode cX7_divide 51 = .ok (.l2i, 1) := by decide +kernel
theorem dX7_divide_52 : decode cX7_divide 52 = .ok (.invokevirtual 149, 3) := by decide +kernel
theorem dX7_divide_55 : decode cX7_divide 55 = .ok (.aload_n 0, 1) := by decide +kernel
theorem dX7_divide_56 : decode cX7_divide 56 = .ok (.aload_n 0, 1) := by decide +kernel
theorem dX7_divide_57 : decode cX7_divide 57 = .ok (.iload_n 1, 1) := by decide +kernel
theorem dX7_divide_58 : decode cX7_divide 58 = .ok (.iconst 1, 1) := by decide +kernel
theorem dX7_divide_59 : decode cX7_divide 59 = .ok (.iadd, 1) := by decide +kernel
theorem dX7_divide_60 : decode cX7_divide 60 = .ok (.invokevirtual 119, 3) := by decide +kernel
theorem dX7_divide_63 : decode cX7_divide 63 = .ok (.lload 4, 2) := by decide +kernel
theorem dX7_divide_65 : decode cX7_divide 65 = .ok (.iload_n 2, 1) := by decide +kernel
theorem dX7_divide_66 : decode cX7_divide 66 = .ok (.i2l, 1) := by decide +kernel
theorem dX7_divide_67 : decode cX7_divide 67 = .ok (.lrem, 1) := by decide +kernel
theorem dX7_divide_68 : decode cX7_divide 68 = .ok (.l2i, 1) := by decide +kernel
theorem dX7_divide_69 : decode cX7_divide 69 = .ok (.invokevirtual 125, 3) := by decide +kernel
theorem dX7_divide_72 : decode cX7_divide 72 = .ok (.return_, 1) := by decide +kernel
theorem dX7_bits_0 : decode cX7_bits 0 = .ok (.iload_n 2, 1) := by decide +kernel
theorem dX7_bits_1 : decode cX7_bits 1 = .ok (.bipush 8, 2) := by decide +kernel
theorem dX7_bits_3 : decode cX7_bits 3 = .ok (.if_icmp .gt 7, 3) := by decide +kernel
theorem dX7_bits_6 : decode cX7_bits 6 = .ok (.iconst 1, 1) := by decide +kernel
theorem dX7_bits_7 : decode cX7_bits 7 = .ok (.goto 4, 3) := by decide +kernel
theorem dX7_bits_10 : decode cX7_bits 10 = .ok (.iconst 0, 1) := by decide +kernel
theorem dX7_bits_11 : decode cX7_bits 11 = .ok (.istore 4, 2) := by decide +kernel
theorem dX7_bits_13 : decode cX7_bits 13 = .ok (.aload_n 0, 1) := by decide +kernel
theorem dX7_bits_14 : decode cX7_bits 14 = .ok (.iload_n 1, 1) := by decide +kernel
theorem dX7_bits_15 : decode cX7_bits 15 = .ok (.bipush 63, 2) := by decide +kernel
theorem dX7_bits_17 : decode cX7_bits 17 = .ok (.iand, 1) := by decide +kernel
theorem dX7_bits_18 : decode cX7_bits 18 = .ok (.iload 4, 2) := by decide +kernel
theorem dX7_bits_20 : decode cX7_bits 20 = .ok (.invokevirtual 155, 3) := by decide +kernel
theorem dX7_bits_23 : decode cX7_bits 23 = .ok (.istore 5, 2) := by decide +kernel
theorem dX7_bits_25 : decode cX7_bits 25 = .ok (.aload_n 0, 1) := by decide +kernel
theorem dX7_bits_26 : decode cX7_bits 26 = .ok (.iload 5, 2) := by decide +kernel
theorem dX7_bits_28 : decode cX7_bits 28 = .ok (.iload 4, 2) := by decide +kernel
theorem dX7_bits_30 : decode cX7_bits 30 = .ok (.invokevirtual 158, 3) := by decide +kernel
theorem dX7_bits_33 : decode cX7_bits 33 = .ok (.istore 6, 2) := by decide +kernel
theorem dX7_bits_35 : decode cX7_bits 35 = .ok (.aload_n 0, 1) := by decide +kernel
theorem dX7_bits_36 : decode cX7_bits 36 = .ok (.invokevirtual 190, 3) := by decide +kernel
theorem dX7_bits_39 : decode cX7_bits 39 = .ok (.istore 7, 2) := by decide +kernel
theorem dX7_bits_41 : decode cX7_bits 41 = .ok (.iload_n 3, 1) := by decide +kernel
theorem dX7_bits_42 : decode cX7_bits 42 = .ok (.ifCond .ne 6, 3) := by decide +kernel
theorem dX7_bits_45 : decode cX7_bits 45 = .ok (.iconst 0, 1) := by decide +kernel
theorem dX7_bits_46 : decode cX7_bits 46 = .ok (.istore 6, 2) := by decide +kernel
theorem dX7_bits_48 : decode cX7_bits 48 = .ok (.iconst 0, 1) := by decide +kernel
theorem dX7_bits_49 : decode cX7_bits 49 = .ok (.istore 8, 2) := by decide +kernel
theorem dX7_bits_51 : decode cX7_bits 51 = .ok (.iload 8, 2) := by decide +kernel
theorem dX7_bits_53 : decode cX7_bits 53 = .ok (.iload_n 2, 1) := by decide +kernel
theorem dX7_bits_54 : decode cX7_bits 54 = .ok (.if_icmp .ge 64, 3) := by decide +kernel
theorem dX7_bits_57 : decode cX7_bits 57 = .ok (.iload 7, 2) := by decide +kernel
theorem dX7_bits_59 : decode cX7_bits 59 = .ok (.iload 8, 2) := by decide +kernel
theorem dX7_bits_61 : decode cX7_bits 61 = .ok (.iadd, 1) := by decide +kernel
theorem dX7_bits_62 : decode cX7_bits 62 = .ok (.sipush 4096, 3) := by decide +kernel
theorem dX7_bits_65 : decode cX7_bits 65 = .ok (.irem, 1) := by decide +kernel
theorem dX7_bits_66 : decode cX7_bits 66 = .ok (.istore 9, 2) := by decide +kernel
theorem dX7_bits_68 : decode cX7_bits 68 = .ok (.iload_n 3, 1) := by decide +kernel
theorem dX7_bits_69 : decode cX7_bits 69 = .ok (.ifCond .eq 29, 3) := by decide +kernel
theorem dX7_bits_72 : decode cX7_bits 72 = .ok (.aload_n 0, 1) := by decide +kernel
theorem dX7_bits_73 : decode cX7_bits 73 = .ok (.getfield 27, 3) := by decide +kernel
theorem dX7_bits_76 : decode cX7_bits 76 = .ok (.iload 9, 2) := by decide +kernel
theorem dX7_bits_78 : decode cX7_bits 78 = .ok (.iload 6, 2) := by decide +kernel
theorem dX7_bits_80 : decode cX7_bits 80 = .ok (.iload 8, 2) := by decide +kernel
theorem dX7_bits_82 : decode cX7_bits 82 = .ok (.ishr, 1) := by decide +kernel
theorem dX7_bits_83 : decode cX7_bits 83 = .ok (.iconst 1, 1) := by decide +kernel
theorem dX7_bits_84 : decode cX7_bits 84 = .ok (.iand, 1) := by decide +kernel
theorem dX7_bits_85 : decode cX7_bits 85 = .ok (.iconst 1, 1) := by decide +kernel
theorem dX7_bits_86 : decode cX7_bits 86 = .ok (.if_icmp .ne 7, 3) := by decide +kernel
theorem dX7_bits_89 : decode cX7_bits 89 = .ok (.iconst 1, 1) := by decide +kernel
theorem dX7_bits_90 : decode cX7_bits 90 = .ok (.goto 4, 3) := by decide +kernel
theorem dX7_bits_93 : decode cX7_bits 93 = .ok (.iconst 0, 1) := by decide +kernel
theorem dX7_bits_94 : decode cX7_bits 94 = .ok (.bastore, 1) := by decide +kernel
theorem dX7_bits_95 : decode cX7_bits 95 = .ok (.goto 17, 3) := by decide +kernel
theorem dX7_bits_98 : decode cX7_bits 98 = .ok (.iload 6, 2) := by decide +kernel
theorem dX7_bits_100 : decode cX7_bits 100 = .ok (.aload_n 0, 1) := by decide +kernel
theorem dX7_bits_101 : decode cX7_bits 101 = .ok (.iload 9, 2) := by decide +kernel
