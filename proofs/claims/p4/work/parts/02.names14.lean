theorem dX7_frame_2 : decode cX7_frame 2 = .ok (.putfield 44, 3) := by decide +kernel
theorem dX7_frame_5 : decode cX7_frame 5 = .ok (.aload_n 0, 1) := by decide +kernel
theorem dX7_frame_6 : decode cX7_frame 6 = .ok (.iconst 1, 1) := by decide +kernel
theorem dX7_frame_7 : decode cX7_frame 7 = .ok (.putfield 99, 3) := by decide +kernel
theorem dX7_frame_10 : decode cX7_frame 10 = .ok (.return_, 1) := by decide +kernel
theorem dX7_interrupt_0 : decode cX7_interrupt 0 = .ok (.aload_n 0, 1) := by decide +kernel
theorem dX7_interrupt_1 : decode cX7_interrupt 1 = .ok (.iconst 0, 1) := by decide +kernel
theorem dX7_interrupt_2 : decode cX7_interrupt 2 = .ok (.putfield 44, 3) := by decide +kernel
theorem dX7_interrupt_5 : decode cX7_interrupt 5 = .ok (.iload_n 1, 1) := by decide +kernel
theorem dX7_interrupt_6 : decode cX7_interrupt 6 = .ok (.iconst 2, 1) := by decide +kernel
theorem dX7_interrupt_7 : decode cX7_interrupt 7 = .ok (.bipush 15, 2) := by decide +kernel
theorem dX7_interrupt_9 : decode cX7_interrupt 9 = .ok (.invokestatic 47, 3) := by decide +kernel
theorem dX7_interrupt_12 : decode cX7_interrupt 12 = .ok (.ifCond .ne 5, 3) := by decide +kernel
theorem dX7_interrupt_15 : decode cX7_interrupt 15 = .ok (.iconst 0, 1) := by decide +kernel
theorem dX7_interrupt_16 : decode cX7_interrupt 16 = .ok (.ireturn, 1) := by decide +kernel
theorem dX7_interrupt_17 : decode cX7_interrupt 17 = .ok (.aload_n 0, 1) := by decide +kernel
theorem dX7_interrupt_18 : decode cX7_interrupt 18 = .ok (.getfield 38, 3) := by decide +kernel
theorem dX7_interrupt_21 : decode cX7_interrupt 21 = .ok (.iload_n 1, 1) := by decide +kernel
theorem dX7_interrupt_22 : decode cX7_interrupt 22 = .ok (.iconst 1, 1) := by decide +kernel
theorem dX7_interrupt_23 : decode cX7_interrupt 23 = .ok (.bastore, 1) := by decide +kernel
theorem dX7_interrupt_24 : decode cX7_interrupt 24 = .ok (.iconst 1, 1) := by decide +kernel
theorem dX7_interrupt_25 : decode cX7_interrupt 25 = .ok (.ireturn, 1) := by decide +kernel
theorem dX7_key_0 : decode cX7_key 0 = .ok (.aload_n 0, 1) := by decide +kernel
theorem dX7_key_1 : decode cX7_key 1 = .ok (.iconst 0, 1) := by decide +kernel
theorem dX7_key_2 : decode cX7_key 2 = .ok (.putfield 44, 3) := by decide +kernel
theorem dX7_key_5 : decode cX7_key 5 = .ok (.iload_n 1, 1) := by decide +kernel
theorem dX7_key_6 : decode cX7_key 6 = .ok (.iconst 0, 1) := by decide +kernel
theorem dX7_key_7 : decode cX7_key 7 = .ok (.bipush 7, 2) := by decide +kernel
theorem dX7_key_9 : decode cX7_key 9 = .ok (.invokestatic 47, 3) := by decide +kernel
theorem dX7_key_12 : decode cX7_key 12 = .ok (.ifCond .eq 13, 3) := by decide +kernel
theorem dX7_key_15 : decode cX7_key 15 = .ok (.iload_n 2, 1) := by decide +kernel
theorem dX7_key_16 : decode cX7_key 16 = .ok (.iconst 0, 1) := by decide +kernel
theorem dX7_key_17 : decode cX7_key 17 = .ok (.bipush 7, 2) := by decide +kernel
theorem dX7_key_19 : decode cX7_key 19 = .ok (.invokestatic 47, 3) := by decide +kernel
theorem dX7_key_22 : decode cX7_key 22 = .ok (.ifCond .ne 5, 3) := by decide +kernel
theorem dX7_key_25 : decode cX7_key 25 = .ok (.iconst 0, 1) := by decide +kernel
theorem dX7_key_26 : decode cX7_key 26 = .ok (.ireturn, 1) := by decide +kernel
theorem dX7_key_27 : decode cX7_key 27 = .ok (.aload_n 0, 1) := by decide +kernel
theorem dX7_key_28 : decode cX7_key 28 = .ok (.getfield 31, 3) := by decide +kernel
theorem dX7_key_31 : decode cX7_key 31 = .ok (.bipush 8, 2) := by decide +kernel
theorem dX7_key_33 : decode cX7_key 33 = .ok (.iload_n 1, 1) := by decide +kernel
theorem dX7_key_34 : decode cX7_key 34 = .ok (.imul, 1) := by decide +kernel
theorem dX7_key_35 : decode cX7_key 35 = .ok (.iload_n 2, 1) := by decide +kernel
theorem dX7_key_36 : decode cX7_key 36 = .ok (.iadd, 1) := by decide +kernel
theorem dX7_key_37 : decode cX7_key 37 = .ok (.iload_n 3, 1) := by decide +kernel
theorem dX7_key_38 : decode cX7_key 38 = .ok (.bastore, 1) := by decide +kernel
theorem dX7_key_39 : decode cX7_key 39 = .ok (.iconst 1, 1) := by decide +kernel
theorem dX7_key_40 : decode cX7_key 40 = .ok (.ireturn, 1) := by decide +kernel
theorem dX7_out_0 : decode cX7_out 0 = .ok (.aload_n 0, 1) := by decide +kernel
theorem dX7_out_1 : decode cX7_out 1 = .ok (.iconst 0, 1) := by decide +kernel
theorem dX7_out_2 : decode cX7_out 2 = .ok (.putfield 44, 3) := by decide +kernel
theorem dX7_out_5 : decode cX7_out 5 = .ok (.iload_n 1, 1) := by decide +kernel
theorem dX7_out_6 : decode cX7_out 6 = .ok (.iconst 0, 1) := by decide +kernel
theorem dX7_out_7 : decode cX7_out 7 = .ok (.sipush 4095, 3) := by decide +kernel
theorem dX7_out_10 : decode cX7_out 10 = .ok (.invokestatic 47, 3) := by decide +kernel
theorem dX7_out_13 : decode cX7_out 13 = .ok (.ifCond .eq 20, 3) := by decide +kernel
theorem dX7_out_16 : decode cX7_out 16 = .ok (.aload_n 0, 1) := by decide +kernel
theorem dX7_out_17 : decode cX7_out 17 = .ok (.getfield 27, 3) := by decide +kernel
theorem dX7_out_20 : decode cX7_out 20 = .ok (.iload_n 1, 1) := by decide +kernel
theorem dX7_out_21 : decode cX7_out 21 = .ok (.baload, 1) := by decide +kernel
theorem dX7_out_22 : decode cX7_out 22 = .ok (.ifCond .eq 7, 3) := by decide +kernel
theorem dX7_out_25 : decode cX7_out 25 = .ok (.iconst 1, 1) := by decide +kernel
theorem dX7_out_26 : decode cX7_out 26 = .ok (.goto 8, 3) := by decide +kernel
theorem dX7_out_29 : decode cX7_out 29 = .ok (.iconst 0, 1) := by decide +kernel
theorem dX7_out_30 : decode cX7_out 30 = .ok (.goto 4, 3) := by decide +kernel
theorem dX7_out_33 : decode cX7_out 33 = .ok (.iconst (-1), 1) := by decide +kernel
theorem dX7_out_34 : decode cX7_out 34 = .ok (.ireturn, 1) := by decide +kernel
theorem dX7_in__0 : decode cX7_in_ 0 = .ok (.aload_n 0, 1) := by decide +kernel
theorem dX7_in__1 : decode cX7_in_ 1 = .ok (.iconst 0, 1) := by decide +kernel
theorem dX7_in__2 : decode cX7_in_ 2 = .ok (.putfield 44, 3) := by decide +kernel
theorem dX7_in__5 : decode cX7_in_ 5 = .ok (.iload_n 1, 1) := by decide +kernel
theorem dX7_in__6 : decode cX7_in_ 6 = .ok (.iconst 0, 1) := by decide +kernel
theorem dX7_in__7 : decode cX7_in_ 7 = .ok (.sipush 4095, 3) := by decide +kernel
theorem dX7_in__10 : decode cX7_in_ 10 = .ok (.invokestatic 47, 3) := by decide +kernel
theorem dX7_in__13 : decode cX7_in_ 13 = .ok (.ifCond .eq 11, 3) := by decide +kernel
theorem dX7_in__16 : decode cX7_in_ 16 = .ok (.aload_n 0, 1) := by decide +kernel
theorem dX7_in__17 : decode cX7_in_ 17 = .ok (.iload_n 1, 1) := by decide +kernel
theorem dX7_in__18 : decode cX7_in_ 18 = .ok (.invokevirtual 193, 3) := by decide +kernel
theorem dX7_in__21 : decode cX7_in_ 21 = .ok (.goto 4, 3) := by decide +kernel
theorem dX7_in__24 : decode cX7_in_ 24 = .ok (.iconst (-1), 1) := by decide +kernel
theorem dX7_in__25 : decode cX7_in_ 25 = .ok (.ireturn, 1) := by decide +kernel
theorem dX7_pixel_0 : decode cX7_pixel 0 = .ok (.aload_n 0, 1) := by decide +kernel
theorem dX7_pixel_1 : decode cX7_pixel 1 = .ok (.iconst 0, 1) := by decide +kernel
theorem dX7_pixel_2 : decode cX7_pixel 2 = .ok (.putfield 44, 3) := by decide +kernel
theorem dX7_pixel_5 : decode cX7_pixel 5 = .ok (.iload_n 1, 1) := by decide +kernel
theorem dX7_pixel_6 : decode cX7_pixel 6 = .ok (.iconst 0, 1) := by decide +kernel
theorem dX7_pixel_7 : decode cX7_pixel 7 = .ok (.sipush 255, 3) := by decide +kernel
theorem dX7_pixel_10 : decode cX7_pixel 10 = .ok (.invokestatic 47, 3) := by decide +kernel
theorem dX7_pixel_13 : decode cX7_pixel 13 = .ok (.ifCond .eq 14, 3) := by decide +kernel
theorem dX7_pixel_16 : decode cX7_pixel 16 = .ok (.iload_n 2, 1) := by decide +kernel
theorem dX7_pixel_17 : decode cX7_pixel 17 = .ok (.iconst 0, 1) := by decide +kernel
theorem dX7_pixel_18 : decode cX7_pixel 18 = .ok (.sipush 191, 3) := by decide +kernel
theorem dX7_pixel_21 : decode cX7_pixel 21 = .ok (.invokestatic 47, 3) := by decide +kernel
theorem dX7_pixel_24 : decode cX7_pixel 24 = .ok (.ifCond .ne 5, 3) := by decide +kernel
theorem dX7_pixel_27 : decode cX7_pixel 27 = .ok (.iconst (-1), 1) := by decide +kernel
theorem dX7_pixel_28 : decode cX7_pixel 28 = .ok (.ireturn, 1) := by decide +kernel
theorem dX7_pixel_29 : decode cX7_pixel 29 = .ok (.aload_n 0, 1) := by decide +kernel
theorem dX7_pixel_30 : decode cX7_pixel 30 = .ok (.getfield 23, 3) := by decide +kernel
theorem dX7_pixel_33 : decode cX7_pixel 33 = .ok (.bipush 7, 2) := by decide +kernel
theorem dX7_pixel_35 : decode cX7_pixel 35 = .ok (.iaload, 1) := by decide +kernel
theorem dX7_pixel_36 : decode cX7_pixel 36 = .ok (.bipush 15, 2) := by decide +kernel
theorem dX7_pixel_38 : decode cX7_pixel 38 = .ok (.iand, 1) := by decide +kernel
theorem dX7_pixel_39 : decode cX7_pixel 39 = .ok (.istore_n 3, 1) := by decide +kernel
theorem dX7_pixel_40 : decode cX7_pixel 40 = .ok (.aload_n 0, 1) := by decide +kernel
theorem dX7_pixel_41 : decode cX7_pixel 41 = .ok (.getfield 23, 3) := by decide +kernel
theorem dX7_pixel_44 : decode cX7_pixel 44 = .ok (.iconst 1, 1) := by decide +kernel
theorem dX7_pixel_45 : decode cX7_pixel 45 = .ok (.iaload, 1) := by decide +kernel
theorem dX7_pixel_46 : decode cX7_pixel 46 = .ok (.bipush 64, 2) := by decide +kernel
theorem dX7_pixel_48 : decode cX7_pixel 48 = .ok (.iand, 1) := by decide +kernel
theorem dX7_pixel_49 : decode cX7_pixel 49 = .ok (.ifCond .ne 5, 3) := by decide +kernel
theorem dX7_pixel_52 : decode cX7_pixel 52 = .ok (.iload_n 3, 1) := by decide +kernel
theorem dX7_pixel_53 : decode cX7_pixel 53 = .ok (.ireturn, 1) := by decide +kernel
theorem dX7_pixel_54 : decode cX7_pixel 54 = .ok (.aload_n 0, 1) := by decide +kernel
theorem dX7_pixel_55 : decode cX7_pixel 55 = .ok (.getfield 17, 3) := by decide +kernel
theorem dX7_pixel_58 : decode cX7_pixel 58 = .ok (.aload_n 0, 1) := by decide +kernel
theorem dX7_pixel_59 : decode cX7_pixel 59 = .ok (.getfield 23, 3) := by decide +kernel
theorem dX7_pixel_62 : decode cX7_pixel 62 = .ok (.iconst 2, 1) := by decide +kernel
theorem dX7_pixel_63 : decode cX7_pixel 63 = .ok (.iaload, 1) := by decide +kernel
theorem dX7_pixel_64 : decode cX7_pixel 64 = .ok (.bipush 16, 2) := by decide +kernel
theorem dX7_pixel_66 : decode cX7_pixel 66 = .ok (.irem, 1) := by decide +kernel
theorem dX7_pixel_67 : decode cX7_pixel 67 = .ok (.sipush 1024, 3) := by decide +kernel
theorem dX7_pixel_70 : decode cX7_pixel 70 = .ok (.imul, 1) := by decide +kernel
theorem dX7_pixel_71 : decode cX7_pixel 71 = .ok (.bipush 32, 2) := by decide +kernel
theorem dX7_pixel_73 : decode cX7_pixel 73 = .ok (.iload_n 2, 1) := by decide +kernel
theorem dX7_pixel_74 : decode cX7_pixel 74 = .ok (.bipush 8, 2) := by decide +kernel
theorem dX7_pixel_76 : decode cX7_pixel 76 = .ok (.idiv, 1) := by decide +kernel
theorem dX7_pixel_77 : decode cX7_pixel 77 = .ok (.imul, 1) := by decide +kernel
theorem dX7_pixel_78 : decode cX7_pixel 78 = .ok (.iadd, 1) := by decide +kernel
theorem dX7_pixel_79 : decode cX7_pixel 79 = .ok (.iload_n 1, 1) := by decide +kernel
theorem dX7_pixel_80 : decode cX7_pixel 80 = .ok (.bipush 8, 2) := by decide +kernel
theorem dX7_pixel_82 : decode cX7_pixel 82 = .ok (.idiv, 1) := by decide +kernel
theorem dX7_pixel_83 : decode cX7_pixel 83 = .ok (.iadd, 1) := by decide +kernel
theorem dX7_pixel_84 : decode cX7_pixel 84 = .ok (.baload, 1) := by decide +kernel
theorem dX7_pixel_85 : decode cX7_pixel 85 = .ok (.sipush 255, 3) := by decide +kernel
theorem dX7_pixel_88 : decode cX7_pixel 88 = .ok (.iand, 1) := by decide +kernel
theorem dX7_pixel_89 : decode cX7_pixel 89 = .ok (.istore 4, 2) := by decide +kernel
theorem dX7_pixel_91 : decode cX7_pixel 91 = .ok (.aload_n 0, 1) := by decide +kernel
theorem dX7_pixel_92 : decode cX7_pixel 92 = .ok (.getfield 17, 3) := by decide +kernel
theorem dX7_pixel_95 : decode cX7_pixel 95 = .ok (.aload_n 0, 1) := by decide +kernel
theorem dX7_pixel_96 : decode cX7_pixel 96 = .ok (.getfield 23, 3) := by decide +kernel
theorem dX7_pixel_99 : decode cX7_pixel 99 = .ok (.iconst 4, 1) := by decide +kernel
theorem dX7_pixel_100 : decode cX7_pixel 100 = .ok (.iaload, 1) := by decide +kernel
theorem dX7_pixel_101 : decode cX7_pixel 101 = .ok (.bipush 8, 2) := by decide +kernel
theorem dX7_pixel_103 : decode cX7_pixel 103 = .ok (.irem, 1) := by decide +kernel
theorem dX7_pixel_104 : decode cX7_pixel 104 = .ok (.sipush 2048, 3) := by decide +kernel
theorem dX7_pixel_107 : decode cX7_pixel 107 = .ok (.imul, 1) := by decide +kernel
theorem dX7_pixel_108 : decode cX7_pixel 108 = .ok (.bipush 8, 2) := by decide +kernel
theorem dX7_pixel_110 : decode cX7_pixel 110 = .ok (.iload 4, 2) := by decide +kernel
theorem dX7_pixel_112 : decode cX7_pixel 112 = .ok (.imul, 1) := by decide +kernel
theorem dX7_pixel_113 : decode cX7_pixel 113 = .ok (.iadd, 1) := by decide +kernel
theorem dX7_pixel_114 : decode cX7_pixel 114 = .ok (.iload_n 2, 1) := by decide +kernel
theorem dX7_pixel_115 : decode cX7_pixel 115 = .ok (.bipush 8, 2) := by decide +kernel
theorem dX7_pixel_117 : decode cX7_pixel 117 = .ok (.irem, 1) := by decide +kernel
theorem dX7_pixel_118 : decode cX7_pixel 118 = .ok (.iadd, 1) := by decide +kernel
theorem dX7_pixel_119 : decode cX7_pixel 119 = .ok (.baload, 1) := by decide +kernel
theorem dX7_pixel_120 : decode cX7_pixel 120 = .ok (.sipush 255, 3) := by decide +kernel
theorem dX7_pixel_123 : decode cX7_pixel 123 = .ok (.iand, 1) := by decide +kernel
theorem dX7_pixel_124 : decode cX7_pixel 124 = .ok (.istore 5, 2) := by decide +kernel
theorem dX7_pixel_126 : decode cX7_pixel 126 = .ok (.aload_n 0, 1) := by decide +kernel
theorem dX7_pixel_127 : decode cX7_pixel 127 = .ok (.getfield 17, 3) := by decide +kernel
theorem dX7_pixel_130 : decode cX7_pixel 130 = .ok (.aload_n 0, 1) := by decide +kernel
theorem dX7_pixel_131 : decode cX7_pixel 131 = .ok (.getfield 23, 3) := by decide +kernel
theorem dX7_pixel_134 : decode cX7_pixel 134 = .ok (.iconst 3, 1) := by decide +kernel
theorem dX7_pixel_135 : decode cX7_pixel 135 = .ok (.iaload, 1) := by decide +kernel
theorem dX7_pixel_136 : decode cX7_pixel 136 = .ok (.bipush 64, 2) := by decide +kernel
theorem dX7_pixel_138 : decode cX7_pixel 138 = .ok (.imul, 1) := by decide +kernel
theorem dX7_pixel_139 : decode cX7_pixel 139 = .ok (.iload 4, 2) := by decide +kernel
theorem dX7_pixel_141 : decode cX7_pixel 141 = .ok (.bipush 8, 2) := by decide +kernel
theorem dX7_pixel_143 : decode cX7_pixel 143 = .ok (.idiv, 1) := by decide +kernel
theorem dX7_pixel_144 : decode cX7_pixel 144 = .ok (.iadd, 1) := by decide +kernel
theorem dX7_pixel_145 : decode cX7_pixel 145 = .ok (.sipush 16384, 3) := by decide +kernel
theorem dX7_pixel_148 : decode cX7_pixel 148 = .ok (.irem, 1) := by decide +kernel
theorem dX7_pixel_149 : decode cX7_pixel 149 = .ok (.baload, 1) := by decide +kernel
theorem dX7_pixel_150 : decode cX7_pixel 150 = .ok (.sipush 255, 3) := by decide +kernel
theorem dX7_pixel_153 : decode cX7_pixel 153 = .ok (.iand, 1) := by decide +kernel
theorem dX7_pixel_154 : decode cX7_pixel 154 = .ok (.istore 6, 2) := by decide +kernel
theorem dX7_pixel_156 : decode cX7_pixel 156 = .ok (.iload 5, 2) := by decide +kernel
theorem dX7_pixel_158 : decode cX7_pixel 158 = .ok (.bipush 7, 2) := by decide +kernel
theorem dX7_pixel_160 : decode cX7_pixel 160 = .ok (.iload_n 1, 1) := by decide +kernel
theorem dX7_pixel_161 : decode cX7_pixel 161 = .ok (.bipush 8, 2) := by decide +kernel
theorem dX7_pixel_163 : decode cX7_pixel 163 = .ok (.irem, 1) := by decide +kernel
theorem dX7_pixel_164 : decode cX7_pixel 164 = .ok (.isub, 1) := by decide +kernel
theorem dX7_pixel_165 : decode cX7_pixel 165 = .ok (.ishr, 1) := by decide +kernel
theorem dX7_pixel_166 : decode cX7_pixel 166 = .ok (.iconst 1, 1) := by decide +kernel
theorem dX7_pixel_167 : decode cX7_pixel 167 = .ok (.iand, 1) := by decide +kernel
theorem dX7_pixel_168 : decode cX7_pixel 168 = .ok (.iconst 1, 1) := by decide +kernel
theorem dX7_pixel_169 : decode cX7_pixel 169 = .ok (.if_icmp .ne 11, 3) := by decide +kernel
theorem dX7_pixel_172 : decode cX7_pixel 172 = .ok (.iload 6, 2) := by decide +kernel
theorem dX7_pixel_174 : decode cX7_pixel 174 = .ok (.bipush 16, 2) := by decide +kernel
theorem dX7_pixel_176 : decode cX7_pixel 176 = .ok (.idiv, 1) := by decide +kernel
theorem dX7_pixel_177 : decode cX7_pixel 177 = .ok (.goto 8, 3) := by decide +kernel
theorem dX7_pixel_180 : decode cX7_pixel 180 = .ok (.iload 6, 2) := by decide +kernel
theorem dX7_pixel_182 : decode cX7_pixel 182 = .ok (.bipush 16, 2) := by decide +kernel
theorem dX7_pixel_184 : decode cX7_pixel 184 = .ok (.irem, 1) := by decide +kernel
theorem dX7_pixel_185 : decode cX7_pixel 185 = .ok (.istore 7, 2) := by decide +kernel
theorem dX7_pixel_187 : decode cX7_pixel 187 = .ok (.iload 7, 2) := by decide +kernel
theorem dX7_pixel_189 : decode cX7_pixel 189 = .ok (.ifCond .ne 7, 3) := by decide +kernel
theorem dX7_pixel_192 : decode cX7_pixel 192 = .ok (.iload_n 3, 1) := by decide +kernel
theorem dX7_pixel_193 : decode cX7_pixel 193 = .ok (.goto 5, 3) := by decide +kernel
theorem dX7_pixel_196 : decode cX7_pixel 196 = .ok (.iload 7, 2) := by decide +kernel
theorem dX7_pixel_198 : decode cX7_pixel 198 = .ok (.ireturn, 1) := by decide +kernel
theorem dJ6_bitCount_0f7a4_0 : decode cJ6_bitCount_0f7a4 0 = .ok (.iload_n 0, 1) := by decide +kernel
theorem dJ6_bitCount_0f7a4_1 : decode cJ6_bitCount_0f7a4 1 = .ok (.iload_n 0, 1) := by decide +kernel
theorem dJ6_bitCount_0f7a4_2 : decode cJ6_bitCount_0f7a4 2 = .ok (.iconst 1, 1) := by decide +kernel
theorem dJ6_bitCount_0f7a4_3 : decode cJ6_bitCount_0f7a4 3 = .ok (.iushr, 1) := by decide +kernel
theorem dJ6_bitCount_0f7a4_4 : decode cJ6_bitCount_0f7a4 4 = .ok (.ldc_w 265, 3) := by decide +kernel
theorem dJ6_bitCount_0f7a4_7 : decode cJ6_bitCount_0f7a4 7 = .ok (.iand, 1) := by decide +kernel
theorem dJ6_bitCount_0f7a4_8 : decode cJ6_bitCount_0f7a4 8 = .ok (.isub, 1) := by decide +kernel
theorem dJ6_bitCount_0f7a4_9 : decode cJ6_bitCount_0f7a4 9 = .ok (.istore_n 0, 1) := by decide +kernel
theorem dJ6_bitCount_0f7a4_10 : decode cJ6_bitCount_0f7a4 10 = .ok (.iload_n 0, 1) := by decide +kernel
theorem dJ6_bitCount_0f7a4_11 : decode cJ6_bitCount_0f7a4 11 = .ok (.ldc_w 266, 3) := by decide +kernel
theorem dJ6_bitCount_0f7a4_14 : decode cJ6_bitCount_0f7a4 14 = .ok (.iand, 1) := by decide +kernel
theorem dJ6_bitCount_0f7a4_15 : decode cJ6_bitCount_0f7a4 15 = .ok (.iload_n 0, 1) := by decide +kernel
theorem dJ6_bitCount_0f7a4_16 : decode cJ6_bitCount_0f7a4 16 = .ok (.iconst 2, 1) := by decide +kernel
theorem dJ6_bitCount_0f7a4_17 : decode cJ6_bitCount_0f7a4 17 = .ok (.iushr, 1) := by decide +kernel
theorem dJ6_bitCount_0f7a4_18 : decode cJ6_bitCount_0f7a4 18 = .ok (.ldc_w 266, 3) := by decide +kernel
theorem dJ6_bitCount_0f7a4_21 : decode cJ6_bitCount_0f7a4 21 = .ok (.iand, 1) := by decide +kernel
theorem dJ6_bitCount_0f7a4_22 : decode cJ6_bitCount_0f7a4 22 = .ok (.iadd, 1) := by decide +kernel
theorem dJ6_bitCount_0f7a4_23 : decode cJ6_bitCount_0f7a4 23 = .ok (.istore_n 0, 1) := by decide +kernel
theorem dJ6_bitCount_0f7a4_24 : decode cJ6_bitCount_0f7a4 24 = .ok (.iload_n 0, 1) := by decide +kernel
theorem dJ6_bitCount_0f7a4_25 : decode cJ6_bitCount_0f7a4 25 = .ok (.iload_n 0, 1) := by decide +kernel
theorem dJ6_bitCount_0f7a4_26 : decode cJ6_bitCount_0f7a4 26 = .ok (.iconst 4, 1) := by decide +kernel
theorem dJ6_bitCount_0f7a4_27 : decode cJ6_bitCount_0f7a4 27 = .ok (.iushr, 1) := by decide +kernel
theorem dJ6_bitCount_0f7a4_28 : decode cJ6_bitCount_0f7a4 28 = .ok (.iadd, 1) := by decide +kernel
theorem dJ6_bitCount_0f7a4_29 : decode cJ6_bitCount_0f7a4 29 = .ok (.ldc_w 267, 3) := by decide +kernel
theorem dJ6_bitCount_0f7a4_32 : decode cJ6_bitCount_0f7a4 32 = .ok (.iand, 1) := by decide +kernel
theorem dJ6_bitCount_0f7a4_33 : decode cJ6_bitCount_0f7a4 33 = .ok (.istore_n 0, 1) := by decide +kernel
theorem dJ6_bitCount_0f7a4_34 : decode cJ6_bitCount_0f7a4 34 = .ok (.iload_n 0, 1) := by decide +kernel
theorem dJ6_bitCount_0f7a4_35 : decode cJ6_bitCount_0f7a4 35 = .ok (.iload_n 0, 1) := by decide +kernel
theorem dJ6_bitCount_0f7a4_36 : decode cJ6_bitCount_0f7a4 36 = .ok (.bipush 8, 2) := by decide +kernel
theorem dJ6_bitCount_0f7a4_38 : decode cJ6_bitCount_0f7a4 38 = .ok (.iushr, 1) := by decide +kernel
theorem dJ6_bitCount_0f7a4_39 : decode cJ6_bitCount_0f7a4 39 = .ok (.iadd, 1) := by decide +kernel
theorem dJ6_bitCount_0f7a4_40 : decode cJ6_bitCount_0f7a4 40 = .ok (.istore_n 0, 1) := by decide +kernel
theorem dJ6_bitCount_0f7a4_41 : decode cJ6_bitCount_0f7a4 41 = .ok (.iload_n 0, 1) := by decide +kernel
theorem dJ6_bitCount_0f7a4_42 : decode cJ6_bitCount_0f7a4 42 = .ok (.iload_n 0, 1) := by decide +kernel
theorem dJ6_bitCount_0f7a4_43 : decode cJ6_bitCount_0f7a4 43 = .ok (.bipush 16, 2) := by decide +kernel
theorem dJ6_bitCount_0f7a4_45 : decode cJ6_bitCount_0f7a4 45 = .ok (.iushr, 1) := by decide +kernel
theorem dJ6_bitCount_0f7a4_46 : decode cJ6_bitCount_0f7a4 46 = .ok (.iadd, 1) := by decide +kernel
theorem dJ6_bitCount_0f7a4_47 : decode cJ6_bitCount_0f7a4 47 = .ok (.istore_n 0, 1) := by decide +kernel
theorem dJ6_bitCount_0f7a4_48 : decode cJ6_bitCount_0f7a4 48 = .ok (.iload_n 0, 1) := by decide +kernel
theorem dJ6_bitCount_0f7a4_49 : decode cJ6_bitCount_0f7a4 49 = .ok (.bipush 63, 2) := by decide +kernel
theorem dJ6_bitCount_0f7a4_51 : decode cJ6_bitCount_0f7a4 51 = .ok (.iand, 1) := by decide +kernel
theorem dJ6_bitCount_0f7a4_52 : decode cJ6_bitCount_0f7a4 52 = .ok (.ireturn, 1) := by decide +kernel
theorem dL_run_0 : decode cL_run 0 = .ok (.aload_n 2, 1) := by decide +kernel
theorem dL_run_1 : decode cL_run 1 = .ok (.iconst 0, 1) := by decide +kernel
theorem dL_run_2 : decode cL_run 2 = .ok (.aload_n 0, 1) := by decide +kernel
theorem dL_run_3 : decode cL_run 3 = .ok (.iload_n 1, 1) := by decide +kernel
theorem dL_run_4 : decode cL_run 4 = .ok (.invokevirtual 7, 3) := by decide +kernel
theorem dL_run_7 : decode cL_run 7 = .ok (.i2l, 1) := by decide +kernel
theorem dL_run_8 : decode cL_run 8 = .ok (.lastore, 1) := by decide +kernel
theorem dL_run_9 : decode cL_run 9 = .ok (.goto 6, 3) := by decide +kernel
theorem dL_run_12 : decode cL_run 12 = .ok (.astore_n 3, 1) := by decide +kernel
theorem dL_run_13 : decode cL_run 13 = .ok (.iconst 1, 1) := by decide +kernel
theorem dL_run_14 : decode cL_run 14 = .ok (.ireturn, 1) := by decide +kernel
theorem dL_run_15 : decode cL_run 15 = .ok (.iconst 0, 1) := by decide +kernel
theorem dL_run_16 : decode cL_run 16 = .ok (.ireturn, 1) := by decide +kernel
theorem dL_vram_0 : decode cL_vram 0 = .ok (.aload_n 2, 1) := by decide +kernel
theorem dL_vram_1 : decode cL_vram 1 = .ok (.iconst 0, 1) := by decide +kernel
theorem dL_vram_2 : decode cL_vram 2 = .ok (.aload_n 0, 1) := by decide +kernel
theorem dL_vram_3 : decode cL_vram 3 = .ok (.iload_n 1, 1) := by decide +kernel
theorem dL_vram_4 : decode cL_vram 4 = .ok (.invokevirtual 15, 3) := by decide +kernel
theorem dL_vram_7 : decode cL_vram 7 = .ok (.i2l, 1) := by decide +kernel
theorem dL_vram_8 : decode cL_vram 8 = .ok (.lastore, 1) := by decide +kernel
theorem dL_vram_9 : decode cL_vram 9 = .ok (.goto 6, 3) := by decide +kernel
theorem dL_vram_12 : decode cL_vram 12 = .ok (.astore_n 3, 1) := by decide +kernel
theorem dL_vram_13 : decode cL_vram 13 = .ok (.iconst 1, 1) := by decide +kernel
theorem dL_vram_14 : decode cL_vram 14 = .ok (.ireturn, 1) := by decide +kernel
theorem dL_vram_15 : decode cL_vram 15 = .ok (.iconst 0, 1) := by decide +kernel
theorem dL_vram_16 : decode cL_vram 16 = .ok (.ireturn, 1) := by decide +kernel
theorem dL_law_0 : decode cL_law 0 = .ok (.new 8, 3) := by decide +kernel
theorem dL_law_3 : decode cL_law 3 = .ok (.dup, 1) := by decide +kernel
theorem dL_law_4 : decode cL_law 4 = .ok (.invokespecial 20, 3) := by decide +kernel
theorem dL_law_7 : decode cL_law 7 = .ok (.astore_n 1, 1) := by decide +kernel
theorem dL_law_8 : decode cL_law 8 = .ok (.new 21, 3) := by decide +kernel
theorem dL_law_11 : decode cL_law 11 = .ok (.dup, 1) := by decide +kernel
theorem dL_law_12 : decode cL_law 12 = .ok (.invokespecial 23, 3) := by decide +kernel
theorem dL_law_15 : decode cL_law 15 = .ok (.astore_n 2, 1) := by decide +kernel
theorem dL_law_16 : decode cL_law 16 = .ok (.iconst 1, 1) := by decide +kernel
theorem dL_law_17 : decode cL_law 17 = .ok (.newarray .long, 2) := by decide +kernel
theorem dL_law_19 : decode cL_law 19 = .ok (.astore_n 3, 1) := by decide +kernel
theorem dL_law_20 : decode cL_law 20 = .ok (.iconst 0, 1) := by decide +kernel
theorem dL_law_21 : decode cL_law 21 = .ok (.istore 4, 2) := by decide +kernel
theorem dL_law_23 : decode cL_law 23 = .ok (.iload 4, 2) := by decide +kernel
theorem dL_law_25 : decode cL_law 25 = .ok (.aload_n 0, 1) := by decide +kernel
theorem dL_law_26 : decode cL_law 26 = .ok (.arraylength, 1) := by decide +kernel
theorem dL_law_27 : decode cL_law 27 = .ok (.bipush 6, 2) := by decide +kernel
theorem dL_law_29 : decode cL_law 29 = .ok (.isub, 1) := by decide +kernel
theorem dL_law_30 : decode cL_law 30 = .ok (.if_icmp .gt 627, 3) := by decide +kernel
theorem dL_law_33 : decode cL_law 33 = .ok (.aload_n 0, 1) := by decide +kernel
theorem dL_law_34 : decode cL_law 34 = .ok (.iload 4, 2) := by decide +kernel
theorem dL_law_36 : decode cL_law 36 = .ok (.iaload, 1) := by decide +kernel
theorem dL_law_37 : decode cL_law 37 = .ok (.bipush 31, 2) := by decide +kernel
theorem dL_law_39 : decode cL_law 39 = .ok (.iand, 1) := by decide +kernel
theorem dL_law_40 : decode cL_law 40 = .ok (.tableswitch 611 0 16 #[84, 157, 182, 219, 230, 258, 283, 308, 345, 370, 398, 423, 434, 459, 524, 549, 574], 84) := by decide +kernel
theorem dL_law_124 : decode cL_law 124 = .ok (.aload_n 1, 1) := by decide +kernel
theorem dL_law_125 : decode cL_law 125 = .ok (.aload_n 0, 1) := by decide +kernel
theorem dL_law_126 : decode cL_law 126 = .ok (.iload 4, 2) := by decide +kernel
theorem dL_law_128 : decode cL_law 128 = .ok (.iconst 1, 1) := by decide +kernel
theorem dL_law_129 : decode cL_law 129 = .ok (.iadd, 1) := by decide +kernel
theorem dL_law_130 : decode cL_law 130 = .ok (.iaload, 1) := by decide +kernel
theorem dL_law_131 : decode cL_law 131 = .ok (.aload_n 0, 1) := by decide +kernel
theorem dL_law_132 : decode cL_law 132 = .ok (.iload 4, 2) := by decide +kernel
theorem dL_law_134 : decode cL_law 134 = .ok (.iconst 2, 1) := by decide +kernel
theorem dL_law_135 : decode cL_law 135 = .ok (.iadd, 1) := by decide +kernel
theorem dL_law_136 : decode cL_law 136 = .ok (.iaload, 1) := by decide +kernel
theorem dL_law_137 : decode cL_law 137 = .ok (.aload_n 0, 1) := by decide +kernel
theorem dL_law_138 : decode cL_law 138 = .ok (.iload 4, 2) := by decide +kernel
theorem dL_law_140 : decode cL_law 140 = .ok (.iconst 3, 1) := by decide +kernel
theorem dL_law_141 : decode cL_law 141 = .ok (.iadd, 1) := by decide +kernel
theorem dL_law_142 : decode cL_law 142 = .ok (.iaload, 1) := by decide +kernel
theorem dL_law_143 : decode cL_law 143 = .ok (.aload_n 0, 1) := by decide +kernel
theorem dL_law_144 : decode cL_law 144 = .ok (.iload 4, 2) := by decide +kernel
theorem dL_law_146 : decode cL_law 146 = .ok (.iconst 4, 1) := by decide +kernel
theorem dL_law_147 : decode cL_law 147 = .ok (.iadd, 1) := by decide +kernel
theorem dL_law_148 : decode cL_law 148 = .ok (.iaload, 1) := by decide +kernel
theorem dL_law_149 : decode cL_law 149 = .ok (.aload_n 0, 1) := by decide +kernel
theorem dL_law_150 : decode cL_law 150 = .ok (.iload 4, 2) := by decide +kernel
theorem dL_law_152 : decode cL_law 152 = .ok (.iconst 5, 1) := by decide +kernel
theorem dL_law_153 : decode cL_law 153 = .ok (.iadd, 1) := by decide +kernel
theorem dL_law_154 : decode cL_law 154 = .ok (.iaload, 1) := by decide +kernel
theorem dL_law_155 : decode cL_law 155 = .ok (.invokevirtual 24, 3) := by decide +kernel
theorem dL_law_158 : decode cL_law 158 = .ok (.pop, 1) := by decide +kernel
theorem dL_law_159 : decode cL_law 159 = .ok (.aload_n 2, 1) := by decide +kernel
theorem dL_law_160 : decode cL_law 160 = .ok (.aload_n 0, 1) := by decide +kernel
theorem dL_law_161 : decode cL_law 161 = .ok (.iload 4, 2) := by decide +kernel
theorem dL_law_163 : decode cL_law 163 = .ok (.iconst 1, 1) := by decide +kernel
theorem dL_law_164 : decode cL_law 164 = .ok (.iadd, 1) := by decide +kernel
theorem dL_law_165 : decode cL_law 165 = .ok (.iaload, 1) := by decide +kernel
theorem dL_law_166 : decode cL_law 166 = .ok (.aload_n 0, 1) := by decide +kernel
theorem dL_law_167 : decode cL_law 167 = .ok (.iload 4, 2) := by decide +kernel
theorem dL_law_169 : decode cL_law 169 = .ok (.iconst 2, 1) := by decide +kernel
