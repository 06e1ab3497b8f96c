theorem dX7_comesBack_7 : decode cX7_comesBack 7 = .ok (.aload_n 0, 1) := by decide +kernel
theorem dX7_comesBack_8 : decode cX7_comesBack 8 = .ok (.bipush 14, 2) := by decide +kernel
theorem dX7_comesBack_10 : decode cX7_comesBack 10 = .ok (.invokevirtual 146, 3) := by decide +kernel
theorem dX7_comesBack_13 : decode cX7_comesBack 13 = .ok (.istore_n 2, 1) := by decide +kernel
theorem dX7_comesBack_14 : decode cX7_comesBack 14 = .ok (.aload_n 0, 1) := by decide +kernel
theorem dX7_comesBack_15 : decode cX7_comesBack 15 = .ok (.bipush 13, 2) := by decide +kernel
theorem dX7_comesBack_17 : decode cX7_comesBack 17 = .ok (.invokevirtual 146, 3) := by decide +kernel
theorem dX7_comesBack_20 : decode cX7_comesBack 20 = .ok (.istore_n 3, 1) := by decide +kernel
theorem dX7_comesBack_21 : decode cX7_comesBack 21 = .ok (.aload_n 0, 1) := by decide +kernel
theorem dX7_comesBack_22 : decode cX7_comesBack 22 = .ok (.iload_n 1, 1) := by decide +kernel
theorem dX7_comesBack_23 : decode cX7_comesBack 23 = .ok (.ldc 208, 2) := by decide +kernel
theorem dX7_comesBack_25 : decode cX7_comesBack 25 = .ok (.iand, 1) := by decide +kernel
theorem dX7_comesBack_26 : decode cX7_comesBack 26 = .ok (.putfield 131, 3) := by decide +kernel
theorem dX7_comesBack_29 : decode cX7_comesBack 29 = .ok (.aload_n 0, 1) := by decide +kernel
theorem dX7_comesBack_30 : decode cX7_comesBack 30 = .ok (.iload_n 2, 1) := by decide +kernel
theorem dX7_comesBack_31 : decode cX7_comesBack 31 = .ok (.ldc 72, 2) := by decide +kernel
theorem dX7_comesBack_33 : decode cX7_comesBack 33 = .ok (.iand, 1) := by decide +kernel
theorem dX7_comesBack_34 : decode cX7_comesBack 34 = .ok (.putfield 128, 3) := by decide +kernel
theorem dX7_comesBack_37 : decode cX7_comesBack 37 = .ok (.aload_n 0, 1) := by decide +kernel
theorem dX7_comesBack_38 : decode cX7_comesBack 38 = .ok (.iload_n 3, 1) := by decide +kernel
theorem dX7_comesBack_39 : decode cX7_comesBack 39 = .ok (.ldc 72, 2) := by decide +kernel
theorem dX7_comesBack_41 : decode cX7_comesBack 41 = .ok (.iand, 1) := by decide +kernel
theorem dX7_comesBack_42 : decode cX7_comesBack 42 = .ok (.putfield 115, 3) := by decide +kernel
theorem dX7_comesBack_45 : decode cX7_comesBack 45 = .ok (.return_, 1) := by decide +kernel
theorem dX7_immediate_0 : decode cX7_immediate 0 = .ok (.iload_n 1, 1) := by decide +kernel
theorem dX7_immediate_1 : decode cX7_immediate 1 = .ok (.ifCond .ne 17, 3) := by decide +kernel
theorem dX7_immediate_4 : decode cX7_immediate 4 = .ok (.aload_n 0, 1) := by decide +kernel
theorem dX7_immediate_5 : decode cX7_immediate 5 = .ok (.iload_n 2, 1) := by decide +kernel
theorem dX7_immediate_6 : decode cX7_immediate 6 = .ok (.iload_n 3, 1) := by decide +kernel
theorem dX7_immediate_7 : decode cX7_immediate 7 = .ok (.invokevirtual 149, 3) := by decide +kernel
theorem dX7_immediate_10 : decode cX7_immediate 10 = .ok (.aload_n 0, 1) := by decide +kernel
theorem dX7_immediate_11 : decode cX7_immediate 11 = .ok (.iload_n 3, 1) := by decide +kernel
theorem dX7_immediate_12 : decode cX7_immediate 12 = .ok (.iconst 0, 1) := by decide +kernel
theorem dX7_immediate_13 : decode cX7_immediate 13 = .ok (.iconst 0, 1) := by decide +kernel
theorem dX7_immediate_14 : decode cX7_immediate 14 = .ok (.invokevirtual 151, 3) := by decide +kernel
theorem dX7_immediate_17 : decode cX7_immediate 17 = .ok (.return_, 1) := by decide +kernel
theorem dX7_immediate_18 : decode cX7_immediate 18 = .ok (.aload_n 0, 1) := by decide +kernel
theorem dX7_immediate_19 : decode cX7_immediate 19 = .ok (.iload_n 2, 1) := by decide +kernel
theorem dX7_immediate_20 : decode cX7_immediate 20 = .ok (.invokevirtual 146, 3) := by decide +kernel
theorem dX7_immediate_23 : decode cX7_immediate 23 = .ok (.istore 4, 2) := by decide +kernel
theorem dX7_immediate_25 : decode cX7_immediate 25 = .ok (.iload_n 1, 1) := by decide +kernel
theorem dX7_immediate_26 : decode cX7_immediate 26 = .ok (.iconst 4, 1) := by decide +kernel
theorem dX7_immediate_27 : decode cX7_immediate 27 = .ok (.if_icmp .ne 12, 3) := by decide +kernel
theorem dX7_immediate_30 : decode cX7_immediate 30 = .ok (.aload_n 0, 1) := by decide +kernel
theorem dX7_immediate_31 : decode cX7_immediate 31 = .ok (.iload 4, 2) := by decide +kernel
theorem dX7_immediate_33 : decode cX7_immediate 33 = .ok (.iload_n 3, 1) := by decide +kernel
theorem dX7_immediate_34 : decode cX7_immediate 34 = .ok (.iconst 0, 1) := by decide +kernel
theorem dX7_immediate_35 : decode cX7_immediate 35 = .ok (.invokevirtual 151, 3) := by decide +kernel
theorem dX7_immediate_38 : decode cX7_immediate 38 = .ok (.return_, 1) := by decide +kernel
theorem dX7_immediate_39 : decode cX7_immediate 39 = .ok (.iload_n 1, 1) := by decide +kernel
theorem dX7_immediate_40 : decode cX7_immediate 40 = .ok (.iconst 1, 1) := by decide +kernel
theorem dX7_immediate_41 : decode cX7_immediate 41 = .ok (.if_icmp .ne 14, 3) := by decide +kernel
theorem dX7_immediate_44 : decode cX7_immediate 44 = .ok (.aload_n 0, 1) := by decide +kernel
theorem dX7_immediate_45 : decode cX7_immediate 45 = .ok (.iload 4, 2) := by decide +kernel
theorem dX7_immediate_47 : decode cX7_immediate 47 = .ok (.iload_n 3, 1) := by decide +kernel
theorem dX7_immediate_48 : decode cX7_immediate 48 = .ok (.iconst 0, 1) := by decide +kernel
theorem dX7_immediate_49 : decode cX7_immediate 49 = .ok (.invokevirtual 165, 3) := by decide +kernel
theorem dX7_immediate_52 : decode cX7_immediate 52 = .ok (.goto 19, 3) := by decide +kernel
theorem dX7_immediate_55 : decode cX7_immediate 55 = .ok (.iload_n 1, 1) := by decide +kernel
theorem dX7_immediate_56 : decode cX7_immediate 56 = .ok (.iconst 2, 1) := by decide +kernel
theorem dX7_immediate_57 : decode cX7_immediate 57 = .ok (.if_icmp .ne 10, 3) := by decide +kernel
theorem dX7_immediate_60 : decode cX7_immediate 60 = .ok (.iload 4, 2) := by decide +kernel
theorem dX7_immediate_62 : decode cX7_immediate 62 = .ok (.iload_n 3, 1) := by decide +kernel
theorem dX7_immediate_63 : decode cX7_immediate 63 = .ok (.iand, 1) := by decide +kernel
theorem dX7_immediate_64 : decode cX7_immediate 64 = .ok (.goto 7, 3) := by decide +kernel
theorem dX7_immediate_67 : decode cX7_immediate 67 = .ok (.iload 4, 2) := by decide +kernel
theorem dX7_immediate_69 : decode cX7_immediate 69 = .ok (.iload_n 3, 1) := by decide +kernel
theorem dX7_immediate_70 : decode cX7_immediate 70 = .ok (.ior, 1) := by decide +kernel
theorem dX7_immediate_71 : decode cX7_immediate 71 = .ok (.istore 5, 2) := by decide +kernel
theorem dX7_immediate_73 : decode cX7_immediate 73 = .ok (.iload_n 1, 1) := by decide +kernel
theorem dX7_immediate_74 : decode cX7_immediate 74 = .ok (.iconst 1, 1) := by decide +kernel
theorem dX7_immediate_75 : decode cX7_immediate 75 = .ok (.if_icmp .le 11, 3) := by decide +kernel
theorem dX7_immediate_78 : decode cX7_immediate 78 = .ok (.aload_n 0, 1) := by decide +kernel
theorem dX7_immediate_79 : decode cX7_immediate 79 = .ok (.iload 5, 2) := by decide +kernel
theorem dX7_immediate_81 : decode cX7_immediate 81 = .ok (.iconst 0, 1) := by decide +kernel
theorem dX7_immediate_82 : decode cX7_immediate 82 = .ok (.iconst 0, 1) := by decide +kernel
theorem dX7_immediate_83 : decode cX7_immediate 83 = .ok (.invokevirtual 151, 3) := by decide +kernel
theorem dX7_immediate_86 : decode cX7_immediate 86 = .ok (.aload_n 0, 1) := by decide +kernel
theorem dX7_immediate_87 : decode cX7_immediate 87 = .ok (.iload_n 2, 1) := by decide +kernel
theorem dX7_immediate_88 : decode cX7_immediate 88 = .ok (.iload 5, 2) := by decide +kernel
theorem dX7_immediate_90 : decode cX7_immediate 90 = .ok (.invokevirtual 149, 3) := by decide +kernel
theorem dX7_immediate_93 : decode cX7_immediate 93 = .ok (.return_, 1) := by decide +kernel
theorem dX7_jumps_0 : decode cX7_jumps 0 = .ok (.aload_n 0, 1) := by decide +kernel
theorem dX7_jumps_1 : decode cX7_jumps 1 = .ok (.ldc 52, 2) := by decide +kernel
theorem dX7_jumps_3 : decode cX7_jumps 3 = .ok (.invokevirtual 209, 3) := by decide +kernel
theorem dX7_jumps_6 : decode cX7_jumps 6 = .ok (.istore_n 2, 1) := by decide +kernel
theorem dX7_jumps_7 : decode cX7_jumps 7 = .ok (.aload_n 0, 1) := by decide +kernel
theorem dX7_jumps_8 : decode cX7_jumps 8 = .ok (.sipush 16384, 3) := by decide +kernel
theorem dX7_jumps_11 : decode cX7_jumps 11 = .ok (.invokevirtual 209, 3) := by decide +kernel
theorem dX7_jumps_14 : decode cX7_jumps 14 = .ok (.istore_n 3, 1) := by decide +kernel
theorem dX7_jumps_15 : decode cX7_jumps 15 = .ok (.aload_n 0, 1) := by decide +kernel
theorem dX7_jumps_16 : decode cX7_jumps 16 = .ok (.sipush 8192, 3) := by decide +kernel
theorem dX7_jumps_19 : decode cX7_jumps 19 = .ok (.invokevirtual 209, 3) := by decide +kernel
theorem dX7_jumps_22 : decode cX7_jumps 22 = .ok (.istore 4, 2) := by decide +kernel
theorem dX7_jumps_24 : decode cX7_jumps 24 = .ok (.iload_n 1, 1) := by decide +kernel
theorem dX7_jumps_25 : decode cX7_jumps 25 = .ok (.tableswitch 196 0 11 #[63, 65, 80, 95, 98, 113, 115, 126, 142, 150, 166, 181], 63) := by decide +kernel
theorem dX7_jumps_88 : decode cX7_jumps 88 = .ok (.iconst 1, 1) := by decide +kernel
theorem dX7_jumps_89 : decode cX7_jumps 89 = .ok (.ireturn, 1) := by decide +kernel
theorem dX7_jumps_90 : decode cX7_jumps 90 = .ok (.iload_n 3, 1) := by decide +kernel
theorem dX7_jumps_91 : decode cX7_jumps 91 = .ok (.ifCond .ne 12, 3) := by decide +kernel
theorem dX7_jumps_94 : decode cX7_jumps 94 = .ok (.iload 4, 2) := by decide +kernel
theorem dX7_jumps_96 : decode cX7_jumps 96 = .ok (.ifCond .ne 7, 3) := by decide +kernel
theorem dX7_jumps_99 : decode cX7_jumps 99 = .ok (.iconst 1, 1) := by decide +kernel
theorem dX7_jumps_100 : decode cX7_jumps 100 = .ok (.goto 4, 3) := by decide +kernel
theorem dX7_jumps_103 : decode cX7_jumps 103 = .ok (.iconst 0, 1) := by decide +kernel
theorem dX7_jumps_104 : decode cX7_jumps 104 = .ok (.ireturn, 1) := by decide +kernel
theorem dX7_jumps_105 : decode cX7_jumps 105 = .ok (.iload_n 2, 1) := by decide +kernel
theorem dX7_jumps_106 : decode cX7_jumps 106 = .ok (.ifCond .eq 8, 3) := by decide +kernel
theorem dX7_jumps_109 : decode cX7_jumps 109 = .ok (.iload 4, 2) := by decide +kernel
theorem dX7_jumps_111 : decode cX7_jumps 111 = .ok (.ifCond .eq 7, 3) := by decide +kernel
theorem dX7_jumps_114 : decode cX7_jumps 114 = .ok (.iconst 1, 1) := by decide +kernel
theorem dX7_jumps_115 : decode cX7_jumps 115 = .ok (.goto 4, 3) := by decide +kernel
theorem dX7_jumps_118 : decode cX7_jumps 118 = .ok (.iconst 0, 1) := by decide +kernel
theorem dX7_jumps_119 : decode cX7_jumps 119 = .ok (.ireturn, 1) := by decide +kernel
theorem dX7_jumps_120 : decode cX7_jumps 120 = .ok (.iload 4, 2) := by decide +kernel
theorem dX7_jumps_122 : decode cX7_jumps 122 = .ok (.ireturn, 1) := by decide +kernel
theorem dX7_jumps_123 : decode cX7_jumps 123 = .ok (.iload_n 2, 1) := by decide +kernel
theorem dX7_jumps_124 : decode cX7_jumps 124 = .ok (.ifCond .ne 8, 3) := by decide +kernel
theorem dX7_jumps_127 : decode cX7_jumps 127 = .ok (.iload 4, 2) := by decide +kernel
theorem dX7_jumps_129 : decode cX7_jumps 129 = .ok (.ifCond .eq 7, 3) := by decide +kernel
theorem dX7_jumps_132 : decode cX7_jumps 132 = .ok (.iconst 1, 1) := by decide +kernel
theorem dX7_jumps_133 : decode cX7_jumps 133 = .ok (.goto 4, 3) := by decide +kernel
theorem dX7_jumps_136 : decode cX7_jumps 136 = .ok (.iconst 0, 1) := by decide +kernel
theorem dX7_jumps_137 : decode cX7_jumps 137 = .ok (.ireturn, 1) := by decide +kernel
theorem dX7_jumps_138 : decode cX7_jumps 138 = .ok (.iload_n 3, 1) := by decide +kernel
theorem dX7_jumps_139 : decode cX7_jumps 139 = .ok (.ireturn, 1) := by decide +kernel
theorem dX7_jumps_140 : decode cX7_jumps 140 = .ok (.iload 4, 2) := by decide +kernel
theorem dX7_jumps_142 : decode cX7_jumps 142 = .ok (.ifCond .ne 7, 3) := by decide +kernel
theorem dX7_jumps_145 : decode cX7_jumps 145 = .ok (.iconst 1, 1) := by decide +kernel
theorem dX7_jumps_146 : decode cX7_jumps 146 = .ok (.goto 4, 3) := by decide +kernel
theorem dX7_jumps_149 : decode cX7_jumps 149 = .ok (.iconst 0, 1) := by decide +kernel
theorem dX7_jumps_150 : decode cX7_jumps 150 = .ok (.ireturn, 1) := by decide +kernel
theorem dX7_jumps_151 : decode cX7_jumps 151 = .ok (.aload_n 0, 1) := by decide +kernel
theorem dX7_jumps_152 : decode cX7_jumps 152 = .ok (.sipush 4096, 3) := by decide +kernel
theorem dX7_jumps_155 : decode cX7_jumps 155 = .ok (.invokevirtual 209, 3) := by decide +kernel
theorem dX7_jumps_158 : decode cX7_jumps 158 = .ok (.ifCond .ne 7, 3) := by decide +kernel
theorem dX7_jumps_161 : decode cX7_jumps 161 = .ok (.iconst 1, 1) := by decide +kernel
theorem dX7_jumps_162 : decode cX7_jumps 162 = .ok (.goto 4, 3) := by decide +kernel
theorem dX7_jumps_165 : decode cX7_jumps 165 = .ok (.iconst 0, 1) := by decide +kernel
theorem dX7_jumps_166 : decode cX7_jumps 166 = .ok (.ireturn, 1) := by decide +kernel
theorem dX7_jumps_167 : decode cX7_jumps 167 = .ok (.aload_n 0, 1) := by decide +kernel
theorem dX7_jumps_168 : decode cX7_jumps 168 = .ok (.sipush 4096, 3) := by decide +kernel
theorem dX7_jumps_171 : decode cX7_jumps 171 = .ok (.invokevirtual 209, 3) := by decide +kernel
theorem dX7_jumps_174 : decode cX7_jumps 174 = .ok (.ireturn, 1) := by decide +kernel
theorem dX7_jumps_175 : decode cX7_jumps 175 = .ok (.aload_n 0, 1) := by decide +kernel
theorem dX7_jumps_176 : decode cX7_jumps 176 = .ok (.sipush 2048, 3) := by decide +kernel
theorem dX7_jumps_179 : decode cX7_jumps 179 = .ok (.invokevirtual 209, 3) := by decide +kernel
theorem dX7_jumps_182 : decode cX7_jumps 182 = .ok (.ifCond .ne 7, 3) := by decide +kernel
theorem dX7_jumps_185 : decode cX7_jumps 185 = .ok (.iconst 1, 1) := by decide +kernel
theorem dX7_jumps_186 : decode cX7_jumps 186 = .ok (.goto 4, 3) := by decide +kernel
theorem dX7_jumps_189 : decode cX7_jumps 189 = .ok (.iconst 0, 1) := by decide +kernel
theorem dX7_jumps_190 : decode cX7_jumps 190 = .ok (.ireturn, 1) := by decide +kernel
theorem dX7_jumps_191 : decode cX7_jumps 191 = .ok (.iload_n 2, 1) := by decide +kernel
theorem dX7_jumps_192 : decode cX7_jumps 192 = .ok (.ifCond .ne 12, 3) := by decide +kernel
theorem dX7_jumps_195 : decode cX7_jumps 195 = .ok (.iload 4, 2) := by decide +kernel
theorem dX7_jumps_197 : decode cX7_jumps 197 = .ok (.ifCond .ne 7, 3) := by decide +kernel
theorem dX7_jumps_200 : decode cX7_jumps 200 = .ok (.iconst 1, 1) := by decide +kernel
theorem dX7_jumps_201 : decode cX7_jumps 201 = .ok (.goto 4, 3) := by decide +kernel
theorem dX7_jumps_204 : decode cX7_jumps 204 = .ok (.iconst 0, 1) := by decide +kernel
theorem dX7_jumps_205 : decode cX7_jumps 205 = .ok (.ireturn, 1) := by decide +kernel
theorem dX7_jumps_206 : decode cX7_jumps 206 = .ok (.iload_n 2, 1) := by decide +kernel
theorem dX7_jumps_207 : decode cX7_jumps 207 = .ok (.ifCond .eq 12, 3) := by decide +kernel
theorem dX7_jumps_210 : decode cX7_jumps 210 = .ok (.iload 4, 2) := by decide +kernel
theorem dX7_jumps_212 : decode cX7_jumps 212 = .ok (.ifCond .ne 7, 3) := by decide +kernel
theorem dX7_jumps_215 : decode cX7_jumps 215 = .ok (.iconst 1, 1) := by decide +kernel
theorem dX7_jumps_216 : decode cX7_jumps 216 = .ok (.goto 4, 3) := by decide +kernel
theorem dX7_jumps_219 : decode cX7_jumps 219 = .ok (.iconst 0, 1) := by decide +kernel
theorem dX7_jumps_220 : decode cX7_jumps 220 = .ok (.ireturn, 1) := by decide +kernel
theorem dX7_jumps_221 : decode cX7_jumps 221 = .ok (.aload_n 0, 1) := by decide +kernel
theorem dX7_jumps_222 : decode cX7_jumps 222 = .ok (.sipush 1024, 3) := by decide +kernel
theorem dX7_jumps_225 : decode cX7_jumps 225 = .ok (.invokevirtual 209, 3) := by decide +kernel
theorem dX7_jumps_228 : decode cX7_jumps 228 = .ok (.ireturn, 1) := by decide +kernel
theorem dX7_jump_0 : decode cX7_jump 0 = .ok (.iload_n 1, 1) := by decide +kernel
theorem dX7_jump_1 : decode cX7_jump 1 = .ok (.bipush 8, 2) := by decide +kernel
theorem dX7_jump_3 : decode cX7_jump 3 = .ok (.ishr, 1) := by decide +kernel
theorem dX7_jump_4 : decode cX7_jump 4 = .ok (.bipush 15, 2) := by decide +kernel
theorem dX7_jump_6 : decode cX7_jump 6 = .ok (.iand, 1) := by decide +kernel
theorem dX7_jump_7 : decode cX7_jump 7 = .ok (.istore_n 2, 1) := by decide +kernel
theorem dX7_jump_8 : decode cX7_jump 8 = .ok (.iload_n 1, 1) := by decide +kernel
theorem dX7_jump_9 : decode cX7_jump 9 = .ok (.i2b, 1) := by decide +kernel
theorem dX7_jump_10 : decode cX7_jump 10 = .ok (.istore_n 3, 1) := by decide +kernel
theorem dX7_jump_11 : decode cX7_jump 11 = .ok (.iload_n 2, 1) := by decide +kernel
theorem dX7_jump_12 : decode cX7_jump 12 = .ok (.bipush 13, 2) := by decide +kernel
theorem dX7_jump_14 : decode cX7_jump 14 = .ok (.if_icmp .ge 27, 3) := by decide +kernel
theorem dX7_jump_17 : decode cX7_jump 17 = .ok (.aload_n 0, 1) := by decide +kernel
theorem dX7_jump_18 : decode cX7_jump 18 = .ok (.iload_n 2, 1) := by decide +kernel
theorem dX7_jump_19 : decode cX7_jump 19 = .ok (.invokevirtual 212, 3) := by decide +kernel
theorem dX7_jump_22 : decode cX7_jump 22 = .ok (.ifCond .eq 18, 3) := by decide +kernel
theorem dX7_jump_25 : decode cX7_jump 25 = .ok (.aload_n 0, 1) := by decide +kernel
theorem dX7_jump_26 : decode cX7_jump 26 = .ok (.aload_n 0, 1) := by decide +kernel
theorem dX7_jump_27 : decode cX7_jump 27 = .ok (.getfield 128, 3) := by decide +kernel
theorem dX7_jump_30 : decode cX7_jump 30 = .ok (.iconst 2, 1) := by decide +kernel
theorem dX7_jump_31 : decode cX7_jump 31 = .ok (.iload_n 3, 1) := by decide +kernel
theorem dX7_jump_32 : decode cX7_jump 32 = .ok (.imul, 1) := by decide +kernel
theorem dX7_jump_33 : decode cX7_jump 33 = .ok (.iadd, 1) := by decide +kernel
theorem dX7_jump_34 : decode cX7_jump 34 = .ok (.ldc 72, 2) := by decide +kernel
theorem dX7_jump_36 : decode cX7_jump 36 = .ok (.iand, 1) := by decide +kernel
theorem dX7_jump_37 : decode cX7_jump 37 = .ok (.putfield 128, 3) := by decide +kernel
theorem dX7_jump_40 : decode cX7_jump 40 = .ok (.return_, 1) := by decide +kernel
theorem dX7_jump_41 : decode cX7_jump 41 = .ok (.aload_n 0, 1) := by decide +kernel
theorem dX7_jump_42 : decode cX7_jump 42 = .ok (.invokevirtual 190, 3) := by decide +kernel
theorem dX7_jump_45 : decode cX7_jump 45 = .ok (.iload_n 3, 1) := by decide +kernel
theorem dX7_jump_46 : decode cX7_jump 46 = .ok (.iadd, 1) := by decide +kernel
theorem dX7_jump_47 : decode cX7_jump 47 = .ok (.sipush 4096, 3) := by decide +kernel
theorem dX7_jump_50 : decode cX7_jump 50 = .ok (.iadd, 1) := by decide +kernel
theorem dX7_jump_51 : decode cX7_jump 51 = .ok (.sipush 4096, 3) := by decide +kernel
theorem dX7_jump_54 : decode cX7_jump 54 = .ok (.irem, 1) := by decide +kernel
theorem dX7_jump_55 : decode cX7_jump 55 = .ok (.istore 4, 2) := by decide +kernel
theorem dX7_jump_57 : decode cX7_jump 57 = .ok (.iload_n 2, 1) := by decide +kernel
theorem dX7_jump_58 : decode cX7_jump 58 = .ok (.bipush 15, 2) := by decide +kernel
theorem dX7_jump_60 : decode cX7_jump 60 = .ok (.if_icmp .ge 24, 3) := by decide +kernel
theorem dX7_jump_63 : decode cX7_jump 63 = .ok (.aload_n 0, 1) := by decide +kernel
theorem dX7_jump_64 : decode cX7_jump 64 = .ok (.getfield 27, 3) := by decide +kernel
theorem dX7_jump_67 : decode cX7_jump 67 = .ok (.iload 4, 2) := by decide +kernel
theorem dX7_jump_69 : decode cX7_jump 69 = .ok (.iload_n 2, 1) := by decide +kernel
theorem dX7_jump_70 : decode cX7_jump 70 = .ok (.bipush 13, 2) := by decide +kernel
theorem dX7_jump_72 : decode cX7_jump 72 = .ok (.if_icmp .ne 7, 3) := by decide +kernel
theorem dX7_jump_75 : decode cX7_jump 75 = .ok (.iconst 1, 1) := by decide +kernel
theorem dX7_jump_76 : decode cX7_jump 76 = .ok (.goto 4, 3) := by decide +kernel
theorem dX7_jump_79 : decode cX7_jump 79 = .ok (.iconst 0, 1) := by decide +kernel
theorem dX7_jump_80 : decode cX7_jump 80 = .ok (.bastore, 1) := by decide +kernel
theorem dX7_jump_81 : decode cX7_jump 81 = .ok (.goto 25, 3) := by decide +kernel
theorem dX7_jump_84 : decode cX7_jump 84 = .ok (.aload_n 0, 1) := by decide +kernel
theorem dX7_jump_85 : decode cX7_jump 85 = .ok (.sipush 8192, 3) := by decide +kernel
theorem dX7_jump_88 : decode cX7_jump 88 = .ok (.aload_n 0, 1) := by decide +kernel
theorem dX7_jump_89 : decode cX7_jump 89 = .ok (.iload 4, 2) := by decide +kernel
theorem dX7_jump_91 : decode cX7_jump 91 = .ok (.invokevirtual 193, 3) := by decide +kernel
theorem dX7_jump_94 : decode cX7_jump 94 = .ok (.iconst 1, 1) := by decide +kernel
theorem dX7_jump_95 : decode cX7_jump 95 = .ok (.if_icmp .ne 7, 3) := by decide +kernel
theorem dX7_jump_98 : decode cX7_jump 98 = .ok (.iconst 1, 1) := by decide +kernel
theorem dX7_jump_99 : decode cX7_jump 99 = .ok (.goto 4, 3) := by decide +kernel
theorem dX7_jump_102 : decode cX7_jump 102 = .ok (.iconst 0, 1) := by decide +kernel
theorem dX7_jump_103 : decode cX7_jump 103 = .ok (.invokevirtual 134, 3) := by decide +kernel
theorem dX7_jump_106 : decode cX7_jump 106 = .ok (.return_, 1) := by decide +kernel
theorem dX7_does_0 : decode cX7_does 0 = .ok (.iload_n 1, 1) := by decide +kernel
theorem dX7_does_1 : decode cX7_does 1 = .ok (.sipush 16384, 3) := by decide +kernel
theorem dX7_does_4 : decode cX7_does 4 = .ok (.if_icmp .lt 9, 3) := by decide +kernel
theorem dX7_does_7 : decode cX7_does 7 = .ok (.aload_n 0, 1) := by decide +kernel
theorem dX7_does_8 : decode cX7_does 8 = .ok (.iload_n 1, 1) := by decide +kernel
theorem dX7_does_9 : decode cX7_does 9 = .ok (.invokevirtual 215, 3) := by decide +kernel
theorem dX7_does_12 : decode cX7_does 12 = .ok (.ireturn, 1) := by decide +kernel
theorem dX7_does_13 : decode cX7_does 13 = .ok (.iload_n 1, 1) := by decide +kernel
theorem dX7_does_14 : decode cX7_does 14 = .ok (.sipush 8192, 3) := by decide +kernel
theorem dX7_does_17 : decode cX7_does 17 = .ok (.if_icmp .lt 9, 3) := by decide +kernel
theorem dX7_does_20 : decode cX7_does 20 = .ok (.aload_n 0, 1) := by decide +kernel
theorem dX7_does_21 : decode cX7_does 21 = .ok (.iload_n 1, 1) := by decide +kernel
theorem dX7_does_22 : decode cX7_does 22 = .ok (.invokevirtual 218, 3) := by decide +kernel
theorem dX7_does_25 : decode cX7_does 25 = .ok (.ireturn, 1) := by decide +kernel
theorem dX7_does_26 : decode cX7_does 26 = .ok (.iload_n 1, 1) := by decide +kernel
theorem dX7_does_27 : decode cX7_does 27 = .ok (.sipush 4096, 3) := by decide +kernel
theorem dX7_does_30 : decode cX7_does 30 = .ok (.if_icmp .lt 10, 3) := by decide +kernel
theorem dX7_does_33 : decode cX7_does 33 = .ok (.aload_n 0, 1) := by decide +kernel
theorem dX7_does_34 : decode cX7_does 34 = .ok (.iload_n 1, 1) := by decide +kernel
theorem dX7_does_35 : decode cX7_does 35 = .ok (.invokevirtual 221, 3) := by decide +kernel
theorem dX7_does_38 : decode cX7_does 38 = .ok (.iconst 1, 1) := by decide +kernel
theorem dX7_does_39 : decode cX7_does 39 = .ok (.ireturn, 1) := by decide +kernel
theorem dX7_does_40 : decode cX7_does 40 = .ok (.iload_n 1, 1) := by decide +kernel
theorem dX7_does_41 : decode cX7_does 41 = .ok (.sipush 3072, 3) := by decide +kernel
theorem dX7_does_44 : decode cX7_does 44 = .ok (.if_icmp .ge 23, 3) := by decide +kernel
theorem dX7_does_47 : decode cX7_does 47 = .ok (.iload_n 1, 1) := by decide +kernel
theorem dX7_does_48 : decode cX7_does 48 = .ok (.sipush 512, 3) := by decide +kernel
theorem dX7_does_51 : decode cX7_does 51 = .ok (.if_icmp .lt 16, 3) := by decide +kernel
theorem dX7_does_54 : decode cX7_does 54 = .ok (.iload_n 1, 1) := by decide +kernel
theorem dX7_does_55 : decode cX7_does 55 = .ok (.sipush 1920, 3) := by decide +kernel
theorem dX7_does_58 : decode cX7_does 58 = .ok (.sipush 2047, 3) := by decide +kernel
theorem dX7_does_61 : decode cX7_does 61 = .ok (.invokestatic 47, 3) := by decide +kernel
theorem dX7_does_64 : decode cX7_does 64 = .ok (.ifCond .eq 5, 3) := by decide +kernel
theorem dX7_does_67 : decode cX7_does 67 = .ok (.iconst 0, 1) := by decide +kernel
theorem dX7_does_68 : decode cX7_does 68 = .ok (.ireturn, 1) := by decide +kernel
theorem dX7_does_69 : decode cX7_does 69 = .ok (.iload_n 1, 1) := by decide +kernel
theorem dX7_does_70 : decode cX7_does 70 = .ok (.sipush 2048, 3) := by decide +kernel
theorem dX7_does_73 : decode cX7_does 73 = .ok (.if_icmp .lt 10, 3) := by decide +kernel
theorem dX7_does_76 : decode cX7_does 76 = .ok (.aload_n 0, 1) := by decide +kernel
theorem dX7_does_77 : decode cX7_does 77 = .ok (.iload_n 1, 1) := by decide +kernel
theorem dX7_does_78 : decode cX7_does 78 = .ok (.invokevirtual 224, 3) := by decide +kernel
theorem dX7_does_81 : decode cX7_does 81 = .ok (.iconst 1, 1) := by decide +kernel
theorem dX7_does_82 : decode cX7_does 82 = .ok (.ireturn, 1) := by decide +kernel
theorem dX7_does_83 : decode cX7_does 83 = .ok (.iload_n 1, 1) := by decide +kernel
theorem dX7_does_84 : decode cX7_does 84 = .ok (.sipush 1024, 3) := by decide +kernel
theorem dX7_does_87 : decode cX7_does 87 = .ok (.if_icmp .lt 11, 3) := by decide +kernel
theorem dX7_does_90 : decode cX7_does 90 = .ok (.aload_n 0, 1) := by decide +kernel
theorem dX7_does_91 : decode cX7_does 91 = .ok (.iload_n 1, 1) := by decide +kernel
theorem dX7_does_92 : decode cX7_does 92 = .ok (.invokevirtual 227, 3) := by decide +kernel
theorem dX7_does_95 : decode cX7_does 95 = .ok (.goto 8, 3) := by decide +kernel
theorem dX7_does_98 : decode cX7_does 98 = .ok (.aload_n 0, 1) := by decide +kernel
theorem dX7_does_99 : decode cX7_does 99 = .ok (.iload_n 1, 1) := by decide +kernel
theorem dX7_does_100 : decode cX7_does 100 = .ok (.invokevirtual 230, 3) := by decide +kernel
theorem dX7_does_103 : decode cX7_does 103 = .ok (.ireturn, 1) := by decide +kernel
theorem dX7_isAsked_0 : decode cX7_isAsked 0 = .ok (.iload_n 1, 1) := by decide +kernel
theorem dX7_isAsked_1 : decode cX7_isAsked 1 = .ok (.iconst 1, 1) := by decide +kernel
theorem dX7_isAsked_2 : decode cX7_isAsked 2 = .ok (.if_icmp .ne 39, 3) := by decide +kernel
theorem dX7_isAsked_5 : decode cX7_isAsked 5 = .ok (.aload_n 0, 1) := by decide +kernel
theorem dX7_isAsked_6 : decode cX7_isAsked 6 = .ok (.getfield 99, 3) := by decide +kernel
theorem dX7_isAsked_9 : decode cX7_isAsked 9 = .ok (.ifCond .eq 28, 3) := by decide +kernel
theorem dX7_isAsked_12 : decode cX7_isAsked 12 = .ok (.aload_n 0, 1) := by decide +kernel
theorem dX7_isAsked_13 : decode cX7_isAsked 13 = .ok (.getfield 23, 3) := by decide +kernel
theorem dX7_isAsked_16 : decode cX7_isAsked 16 = .ok (.iconst 1, 1) := by decide +kernel
theorem dX7_isAsked_17 : decode cX7_isAsked 17 = .ok (.iaload, 1) := by decide +kernel
theorem dX7_isAsked_18 : decode cX7_isAsked 18 = .ok (.bipush 32, 2) := by decide +kernel
theorem dX7_isAsked_20 : decode cX7_isAsked 20 = .ok (.iand, 1) := by decide +kernel
theorem dX7_isAsked_21 : decode cX7_isAsked 21 = .ok (.ifCond .eq 16, 3) := by decide +kernel
theorem dX7_isAsked_24 : decode cX7_isAsked 24 = .ok (.aload_n 0, 1) := by decide +kernel
theorem dX7_isAsked_25 : decode cX7_isAsked 25 = .ok (.getfield 27, 3) := by decide +kernel
theorem dX7_isAsked_28 : decode cX7_isAsked 28 = .ok (.iconst 2, 1) := by decide +kernel
theorem dX7_isAsked_29 : decode cX7_isAsked 29 = .ok (.baload, 1) := by decide +kernel
theorem dX7_isAsked_30 : decode cX7_isAsked 30 = .ok (.ifCond .eq 7, 3) := by decide +kernel
theorem dX7_isAsked_33 : decode cX7_isAsked 33 = .ok (.iconst 1, 1) := by decide +kernel
theorem dX7_isAsked_34 : decode cX7_isAsked 34 = .ok (.goto 13, 3) := by decide +kernel
theorem dX7_isAsked_37 : decode cX7_isAsked 37 = .ok (.iconst 0, 1) := by decide +kernel
theorem dX7_isAsked_38 : decode cX7_isAsked 38 = .ok (.goto 9, 3) := by decide +kernel
theorem dX7_isAsked_41 : decode cX7_isAsked 41 = .ok (.aload_n 0, 1) := by decide +kernel
theorem dX7_isAsked_42 : decode cX7_isAsked 42 = .ok (.getfield 38, 3) := by decide +kernel
theorem dX7_isAsked_45 : decode cX7_isAsked 45 = .ok (.iload_n 1, 1) := by decide +kernel
theorem dX7_isAsked_46 : decode cX7_isAsked 46 = .ok (.baload, 1) := by decide +kernel
theorem dX7_isAsked_47 : decode cX7_isAsked 47 = .ok (.ireturn, 1) := by decide +kernel
theorem dX7_interrupted_0 : decode cX7_interrupted 0 = .ok (.iconst 1, 1) := by decide +kernel
theorem dX7_interrupted_1 : decode cX7_interrupted 1 = .ok (.istore_n 1, 1) := by decide +kernel
theorem dX7_interrupted_2 : decode cX7_interrupted 2 = .ok (.iload_n 1, 1) := by decide +kernel
theorem dX7_interrupted_3 : decode cX7_interrupted 3 = .ok (.bipush 16, 2) := by decide +kernel
theorem dX7_interrupted_5 : decode cX7_interrupted 5 = .ok (.if_icmp .ge 17, 3) := by decide +kernel
theorem dX7_interrupted_8 : decode cX7_interrupted 8 = .ok (.aload_n 0, 1) := by decide +kernel
theorem dX7_interrupted_9 : decode cX7_interrupted 9 = .ok (.iload_n 1, 1) := by decide +kernel
theorem dX7_interrupted_10 : decode cX7_interrupted 10 = .ok (.invokevirtual 233, 3) := by decide +kernel
theorem dX7_interrupted_13 : decode cX7_interrupted 13 = .ok (.ifCond .ne 9, 3) := by decide +kernel
theorem dX7_interrupted_16 : decode cX7_interrupted 16 = .ok (.iinc 1 1, 3) := by decide +kernel
theorem dX7_interrupted_19 : decode cX7_interrupted 19 = .ok (.goto (-17), 3) := by decide +kernel
theorem dX7_interrupted_22 : decode cX7_interrupted 22 = .ok (.aload_n 0, 1) := by decide +kernel
theorem dX7_interrupted_23 : decode cX7_interrupted 23 = .ok (.getfield 180, 3) := by decide +kernel
theorem dX7_interrupted_26 : decode cX7_interrupted 26 = .ok (.ifCond .ne 14, 3) := by decide +kernel
theorem dX7_interrupted_29 : decode cX7_interrupted 29 = .ok (.iload_n 1, 1) := by decide +kernel
theorem dX7_interrupted_30 : decode cX7_interrupted 30 = .ok (.aload_n 0, 1) := by decide +kernel
theorem dX7_interrupted_31 : decode cX7_interrupted 31 = .ok (.getfield 131, 3) := by decide +kernel
theorem dX7_interrupted_34 : decode cX7_interrupted 34 = .ok (.bipush 15, 2) := by decide +kernel
theorem dX7_interrupted_36 : decode cX7_interrupted 36 = .ok (.iand, 1) := by decide +kernel
theorem dX7_interrupted_37 : decode cX7_interrupted 37 = .ok (.if_icmp .le 4, 3) := by decide +kernel
theorem dX7_interrupted_40 : decode cX7_interrupted 40 = .ok (.return_, 1) := by decide +kernel
theorem dX7_interrupted_41 : decode cX7_interrupted 41 = .ok (.aload_n 0, 1) := by decide +kernel
theorem dX7_interrupted_42 : decode cX7_interrupted 42 = .ok (.iconst 4, 1) := by decide +kernel
theorem dX7_interrupted_43 : decode cX7_interrupted 43 = .ok (.iload_n 1, 1) := by decide +kernel
theorem dX7_interrupted_44 : decode cX7_interrupted 44 = .ok (.imul, 1) := by decide +kernel
theorem dX7_interrupted_45 : decode cX7_interrupted 45 = .ok (.invokevirtual 177, 3) := by decide +kernel
theorem dX7_interrupted_48 : decode cX7_interrupted 48 = .ok (.aload_n 0, 1) := by decide +kernel
theorem dX7_interrupted_49 : decode cX7_interrupted 49 = .ok (.aload_n 0, 1) := by decide +kernel
theorem dX7_interrupted_50 : decode cX7_interrupted 50 = .ok (.getfield 131, 3) := by decide +kernel
theorem dX7_interrupted_53 : decode cX7_interrupted 53 = .ok (.bipush (-16), 2) := by decide +kernel
theorem dX7_interrupted_55 : decode cX7_interrupted 55 = .ok (.iand, 1) := by decide +kernel
theorem dX7_interrupted_56 : decode cX7_interrupted 56 = .ok (.iload_n 1, 1) := by decide +kernel
theorem dX7_interrupted_57 : decode cX7_interrupted 57 = .ok (.iconst 1, 1) := by decide +kernel
theorem dX7_interrupted_58 : decode cX7_interrupted 58 = .ok (.isub, 1) := by decide +kernel
theorem dX7_interrupted_59 : decode cX7_interrupted 59 = .ok (.ior, 1) := by decide +kernel
theorem dX7_interrupted_60 : decode cX7_interrupted 60 = .ok (.putfield 131, 3) := by decide +kernel
theorem dX7_interrupted_63 : decode cX7_interrupted 63 = .ok (.aload_n 0, 1) := by decide +kernel
theorem dX7_interrupted_64 : decode cX7_interrupted 64 = .ok (.getfield 38, 3) := by decide +kernel
theorem dX7_interrupted_67 : decode cX7_interrupted 67 = .ok (.iload_n 1, 1) := by decide +kernel
theorem dX7_interrupted_68 : decode cX7_interrupted 68 = .ok (.iconst 0, 1) := by decide +kernel
theorem dX7_interrupted_69 : decode cX7_interrupted 69 = .ok (.bastore, 1) := by decide +kernel
theorem dX7_interrupted_70 : decode cX7_interrupted 70 = .ok (.aload_n 0, 1) := by decide +kernel
theorem dX7_interrupted_71 : decode cX7_interrupted 71 = .ok (.dup, 1) := by decide +kernel
theorem dX7_interrupted_72 : decode cX7_interrupted 72 = .ok (.getfield 236, 3) := by decide +kernel
theorem dX7_interrupted_75 : decode cX7_interrupted 75 = .ok (.iconst 1, 1) := by decide +kernel
theorem dX7_interrupted_76 : decode cX7_interrupted 76 = .ok (.iadd, 1) := by decide +kernel
theorem dX7_interrupted_77 : decode cX7_interrupted 77 = .ok (.putfield 236, 3) := by decide +kernel
theorem dX7_interrupted_80 : decode cX7_interrupted 80 = .ok (.aload_n 0, 1) := by decide +kernel
theorem dX7_interrupted_81 : decode cX7_interrupted 81 = .ok (.iconst 1, 1) := by decide +kernel
theorem dX7_interrupted_82 : decode cX7_interrupted 82 = .ok (.putfield 180, 3) := by decide +kernel
theorem dX7_interrupted_85 : decode cX7_interrupted 85 = .ok (.aload_n 0, 1) := by decide +kernel
theorem dX7_interrupted_86 : decode cX7_interrupted 86 = .ok (.iconst 0, 1) := by decide +kernel
theorem dX7_interrupted_87 : decode cX7_interrupted 87 = .ok (.putfield 34, 3) := by decide +kernel
theorem dX7_interrupted_90 : decode cX7_interrupted 90 = .ok (.return_, 1) := by decide +kernel
theorem dX7_run_0 : decode cX7_run 0 = .ok (.aload_n 0, 1) := by decide +kernel
theorem dX7_run_1 : decode cX7_run 1 = .ok (.iload_n 1, 1) := by decide +kernel
theorem dX7_run_2 : decode cX7_run 2 = .ok (.iconst 0, 1) := by decide +kernel
theorem dX7_run_3 : decode cX7_run 3 = .ok (.sipush 2000, 3) := by decide +kernel
theorem dX7_run_6 : decode cX7_run 6 = .ok (.invokestatic 47, 3) := by decide +kernel
theorem dX7_run_9 : decode cX7_run 9 = .ok (.ifCond .eq 7, 3) := by decide +kernel
theorem dX7_run_12 : decode cX7_run 12 = .ok (.iconst 0, 1) := by decide +kernel
theorem dX7_run_13 : decode cX7_run 13 = .ok (.goto 4, 3) := by decide +kernel
theorem dX7_run_16 : decode cX7_run 16 = .ok (.iconst 1, 1) := by decide +kernel
theorem dX7_run_17 : decode cX7_run 17 = .ok (.putfield 44, 3) := by decide +kernel
theorem dX7_run_20 : decode cX7_run 20 = .ok (.aload_n 0, 1) := by decide +kernel
theorem dX7_run_21 : decode cX7_run 21 = .ok (.getfield 44, 3) := by decide +kernel
theorem dX7_run_24 : decode cX7_run 24 = .ok (.ifCond .le 5, 3) := by decide +kernel
theorem dX7_run_27 : decode cX7_run 27 = .ok (.iconst 0, 1) := by decide +kernel
theorem dX7_run_28 : decode cX7_run 28 = .ok (.ireturn, 1) := by decide +kernel
theorem dX7_run_29 : decode cX7_run 29 = .ok (.iconst 0, 1) := by decide +kernel
theorem dX7_run_30 : decode cX7_run 30 = .ok (.istore_n 2, 1) := by decide +kernel
theorem dX7_run_31 : decode cX7_run 31 = .ok (.iload_n 2, 1) := by decide +kernel
theorem dX7_run_32 : decode cX7_run 32 = .ok (.iload_n 1, 1) := by decide +kernel
theorem dX7_run_33 : decode cX7_run 33 = .ok (.if_icmp .ge 74, 3) := by decide +kernel
theorem dX7_run_36 : decode cX7_run 36 = .ok (.aload_n 0, 1) := by decide +kernel
theorem dX7_run_37 : decode cX7_run 37 = .ok (.getfield 34, 3) := by decide +kernel
theorem dX7_run_40 : decode cX7_run 40 = .ok (.iconst 2, 1) := by decide +kernel
theorem dX7_run_41 : decode cX7_run 41 = .ok (.if_icmp .eq 66, 3) := by decide +kernel
theorem dX7_run_44 : decode cX7_run 44 = .ok (.aload_n 0, 1) := by decide +kernel
theorem dX7_run_45 : decode cX7_run 45 = .ok (.invokevirtual 239, 3) := by decide +kernel
theorem dX7_run_48 : decode cX7_run 48 = .ok (.aload_n 0, 1) := by decide +kernel
theorem dX7_run_49 : decode cX7_run 49 = .ok (.getfield 34, 3) := by decide +kernel
theorem dX7_run_52 : decode cX7_run 52 = .ok (.iconst 1, 1) := by decide +kernel
theorem dX7_run_53 : decode cX7_run 53 = .ok (.if_icmp .ne 5, 3) := by decide +kernel
theorem dX7_run_56 : decode cX7_run 56 = .ok (.iload_n 2, 1) := by decide +kernel
theorem dX7_run_57 : decode cX7_run 57 = .ok (.ireturn, 1) := by decide +kernel
theorem dX7_run_58 : decode cX7_run 58 = .ok (.aload_n 0, 1) := by decide +kernel
theorem dX7_run_59 : decode cX7_run 59 = .ok (.iconst 0, 1) := by decide +kernel
theorem dX7_run_60 : decode cX7_run 60 = .ok (.putfield 180, 3) := by decide +kernel
theorem dX7_run_63 : decode cX7_run 63 = .ok (.aload_n 0, 1) := by decide +kernel
theorem dX7_run_64 : decode cX7_run 64 = .ok (.getfield 128, 3) := by decide +kernel
theorem dX7_run_67 : decode cX7_run 67 = .ok (.istore_n 3, 1) := by decide +kernel
theorem dX7_run_68 : decode cX7_run 68 = .ok (.aload_n 0, 1) := by decide +kernel
theorem dX7_run_69 : decode cX7_run 69 = .ok (.aload_n 0, 1) := by decide +kernel
theorem dX7_run_70 : decode cX7_run 70 = .ok (.invokevirtual 142, 3) := by decide +kernel
theorem dX7_run_73 : decode cX7_run 73 = .ok (.invokevirtual 196, 3) := by decide +kernel
theorem dX7_run_76 : decode cX7_run 76 = .ok (.ifCond .ne 15, 3) := by decide +kernel
theorem dX7_run_79 : decode cX7_run 79 = .ok (.aload_n 0, 1) := by decide +kernel
theorem dX7_run_80 : decode cX7_run 80 = .ok (.iload_n 3, 1) := by decide +kernel
theorem dX7_run_81 : decode cX7_run 81 = .ok (.putfield 128, 3) := by decide +kernel
theorem dX7_run_84 : decode cX7_run 84 = .ok (.aload_n 0, 1) := by decide +kernel
theorem dX7_run_85 : decode cX7_run 85 = .ok (.iconst 2, 1) := by decide +kernel
theorem dX7_run_86 : decode cX7_run 86 = .ok (.putfield 34, 3) := by decide +kernel
theorem dX7_run_89 : decode cX7_run 89 = .ok (.iload_n 2, 1) := by decide +kernel
theorem dX7_run_90 : decode cX7_run 90 = .ok (.ireturn, 1) := by decide +kernel
