theorem dX7_run_91 : decode cX7_run 91 = .ok (.iinc 2 1, 3) := by decide +kernel
theorem dX7_run_94 : decode cX7_run 94 = .ok (.aload_n 0, 1) := by decide +kernel
theorem dX7_run_95 : decode cX7_run 95 = .ok (.dup, 1) := by decide +kernel
theorem dX7_run_96 : decode cX7_run 96 = .ok (.getfield 242, 3) := by decide +kernel
theorem dX7_run_99 : decode cX7_run 99 = .ok (.iconst 1, 1) := by decide +kernel
theorem dX7_run_100 : decode cX7_run 100 = .ok (.iadd, 1) := by decide +kernel
theorem dX7_run_101 : decode cX7_run 101 = .ok (.putfield 242, 3) := by decide +kernel
theorem dX7_run_104 : decode cX7_run 104 = .ok (.goto (-73), 3) := by decide +kernel
theorem dX7_run_107 : decode cX7_run 107 = .ok (.iload_n 2, 1) := by decide +kernel
theorem dX7_run_108 : decode cX7_run 108 = .ok (.ireturn, 1) := by decide +kernel
theorem dX7_feed_0 : decode cX7_feed 0 = .ok (.aload_n 0, 1) := by decide +kernel
theorem dX7_feed_1 : decode cX7_feed 1 = .ok (.iconst 0, 1) := by decide +kernel
theorem dX7_feed_2 : decode cX7_feed 2 = .ok (.putfield 44, 3) := by decide +kernel
theorem dX7_feed_5 : decode cX7_feed 5 = .ok (.aload_n 0, 1) := by decide +kernel
theorem dX7_feed_6 : decode cX7_feed 6 = .ok (.getfield 245, 3) := by decide +kernel
theorem dX7_feed_9 : decode cX7_feed 9 = .ok (.bipush 20, 2) := by decide +kernel
theorem dX7_feed_11 : decode cX7_feed 11 = .ok (.iadd, 1) := by decide +kernel
theorem dX7_feed_12 : decode cX7_feed 12 = .ok (.sipush 1000, 3) := by decide +kernel
theorem dX7_feed_15 : decode cX7_feed 15 = .ok (.if_icmp .le 5, 3) := by decide +kernel
theorem dX7_feed_18 : decode cX7_feed 18 = .ok (.iconst (-1), 1) := by decide +kernel
theorem dX7_feed_19 : decode cX7_feed 19 = .ok (.ireturn, 1) := by decide +kernel
theorem dX7_feed_20 : decode cX7_feed 20 = .ok (.iconst 0, 1) := by decide +kernel
theorem dX7_feed_21 : decode cX7_feed 21 = .ok (.istore 6, 2) := by decide +kernel
theorem dX7_feed_23 : decode cX7_feed 23 = .ok (.iload 6, 2) := by decide +kernel
theorem dX7_feed_25 : decode cX7_feed 25 = .ok (.bipush 20, 2) := by decide +kernel
theorem dX7_feed_27 : decode cX7_feed 27 = .ok (.if_icmp .ge 93, 3) := by decide +kernel
theorem dX7_feed_30 : decode cX7_feed 30 = .ok (.iload 6, 2) := by decide +kernel
theorem dX7_feed_32 : decode cX7_feed 32 = .ok (.iconst 4, 1) := by decide +kernel
theorem dX7_feed_33 : decode cX7_feed 33 = .ok (.if_icmp .ge 7, 3) := by decide +kernel
theorem dX7_feed_36 : decode cX7_feed 36 = .ok (.iload_n 1, 1) := by decide +kernel
theorem dX7_feed_37 : decode cX7_feed 37 = .ok (.goto 39, 3) := by decide +kernel
theorem dX7_feed_40 : decode cX7_feed 40 = .ok (.iload 6, 2) := by decide +kernel
theorem dX7_feed_42 : decode cX7_feed 42 = .ok (.bipush 8, 2) := by decide +kernel
theorem dX7_feed_44 : decode cX7_feed 44 = .ok (.if_icmp .ge 7, 3) := by decide +kernel
theorem dX7_feed_47 : decode cX7_feed 47 = .ok (.iload_n 2, 1) := by decide +kernel
theorem dX7_feed_48 : decode cX7_feed 48 = .ok (.goto 28, 3) := by decide +kernel
theorem dX7_feed_51 : decode cX7_feed 51 = .ok (.iload 6, 2) := by decide +kernel
theorem dX7_feed_53 : decode cX7_feed 53 = .ok (.bipush 12, 2) := by decide +kernel
theorem dX7_feed_55 : decode cX7_feed 55 = .ok (.if_icmp .ge 7, 3) := by decide +kernel
theorem dX7_feed_58 : decode cX7_feed 58 = .ok (.iload_n 3, 1) := by decide +kernel
theorem dX7_feed_59 : decode cX7_feed 59 = .ok (.goto 17, 3) := by decide +kernel
theorem dX7_feed_62 : decode cX7_feed 62 = .ok (.iload 6, 2) := by decide +kernel
theorem dX7_feed_64 : decode cX7_feed 64 = .ok (.bipush 16, 2) := by decide +kernel
theorem dX7_feed_66 : decode cX7_feed 66 = .ok (.if_icmp .ge 8, 3) := by decide +kernel
theorem dX7_feed_69 : decode cX7_feed 69 = .ok (.iload 4, 2) := by decide +kernel
theorem dX7_feed_71 : decode cX7_feed 71 = .ok (.goto 5, 3) := by decide +kernel
theorem dX7_feed_74 : decode cX7_feed 74 = .ok (.iload 5, 2) := by decide +kernel
theorem dX7_feed_76 : decode cX7_feed 76 = .ok (.istore 7, 2) := by decide +kernel
theorem dX7_feed_78 : decode cX7_feed 78 = .ok (.aload_n 0, 1) := by decide +kernel
theorem dX7_feed_79 : decode cX7_feed 79 = .ok (.getfield 41, 3) := by decide +kernel
theorem dX7_feed_82 : decode cX7_feed 82 = .ok (.aload_n 0, 1) := by decide +kernel
theorem dX7_feed_83 : decode cX7_feed 83 = .ok (.getfield 245, 3) := by decide +kernel
theorem dX7_feed_86 : decode cX7_feed 86 = .ok (.iload 7, 2) := by decide +kernel
theorem dX7_feed_88 : decode cX7_feed 88 = .ok (.bipush 24, 2) := by decide +kernel
theorem dX7_feed_90 : decode cX7_feed 90 = .ok (.bipush 8, 2) := by decide +kernel
theorem dX7_feed_92 : decode cX7_feed 92 = .ok (.iload 6, 2) := by decide +kernel
theorem dX7_feed_94 : decode cX7_feed 94 = .ok (.iconst 4, 1) := by decide +kernel
theorem dX7_feed_95 : decode cX7_feed 95 = .ok (.irem, 1) := by decide +kernel
theorem dX7_feed_96 : decode cX7_feed 96 = .ok (.imul, 1) := by decide +kernel
theorem dX7_feed_97 : decode cX7_feed 97 = .ok (.isub, 1) := by decide +kernel
theorem dX7_feed_98 : decode cX7_feed 98 = .ok (.ishr, 1) := by decide +kernel
theorem dX7_feed_99 : decode cX7_feed 99 = .ok (.sipush 255, 3) := by decide +kernel
theorem dX7_feed_102 : decode cX7_feed 102 = .ok (.iand, 1) := by decide +kernel
theorem dX7_feed_103 : decode cX7_feed 103 = .ok (.iastore, 1) := by decide +kernel
theorem dX7_feed_104 : decode cX7_feed 104 = .ok (.aload_n 0, 1) := by decide +kernel
theorem dX7_feed_105 : decode cX7_feed 105 = .ok (.dup, 1) := by decide +kernel
theorem dX7_feed_106 : decode cX7_feed 106 = .ok (.getfield 245, 3) := by decide +kernel
theorem dX7_feed_109 : decode cX7_feed 109 = .ok (.iconst 1, 1) := by decide +kernel
theorem dX7_feed_110 : decode cX7_feed 110 = .ok (.iadd, 1) := by decide +kernel
theorem dX7_feed_111 : decode cX7_feed 111 = .ok (.putfield 245, 3) := by decide +kernel
theorem dX7_feed_114 : decode cX7_feed 114 = .ok (.iinc 6 1, 3) := by decide +kernel
theorem dX7_feed_117 : decode cX7_feed 117 = .ok (.goto (-94), 3) := by decide +kernel
theorem dX7_feed_120 : decode cX7_feed 120 = .ok (.aload_n 0, 1) := by decide +kernel
theorem dX7_feed_121 : decode cX7_feed 121 = .ok (.getfield 245, 3) := by decide +kernel
theorem dX7_feed_124 : decode cX7_feed 124 = .ok (.ireturn, 1) := by decide +kernel
theorem dX7_end_0 : decode cX7_end 0 = .ok (.aload_n 0, 1) := by decide +kernel
theorem dX7_end_1 : decode cX7_end 1 = .ok (.iconst 0, 1) := by decide +kernel
theorem dX7_end_2 : decode cX7_end 2 = .ok (.putfield 44, 3) := by decide +kernel
theorem dX7_end_5 : decode cX7_end 5 = .ok (.iload_n 1, 1) := by decide +kernel
theorem dX7_end_6 : decode cX7_end 6 = .ok (.iconst 0, 1) := by decide +kernel
theorem dX7_end_7 : decode cX7_end 7 = .ok (.aload_n 0, 1) := by decide +kernel
theorem dX7_end_8 : decode cX7_end 8 = .ok (.getfield 245, 3) := by decide +kernel
theorem dX7_end_11 : decode cX7_end 11 = .ok (.invokestatic 47, 3) := by decide +kernel
theorem dX7_end_14 : decode cX7_end 14 = .ok (.ifCond .ne 5, 3) := by decide +kernel
theorem dX7_end_17 : decode cX7_end 17 = .ok (.iconst (-1), 1) := by decide +kernel
theorem dX7_end_18 : decode cX7_end 18 = .ok (.ireturn, 1) := by decide +kernel
theorem dX7_end_19 : decode cX7_end 19 = .ok (.aload_n 0, 1) := by decide +kernel
theorem dX7_end_20 : decode cX7_end 20 = .ok (.iload_n 1, 1) := by decide +kernel
theorem dX7_end_21 : decode cX7_end 21 = .ok (.putfield 245, 3) := by decide +kernel
theorem dX7_end_24 : decode cX7_end 24 = .ok (.iload_n 1, 1) := by decide +kernel
theorem dX7_end_25 : decode cX7_end 25 = .ok (.ireturn, 1) := by decide +kernel
theorem dX7_load_0 : decode cX7_load 0 = .ok (.aload_n 0, 1) := by decide +kernel
theorem dX7_load_1 : decode cX7_load 1 = .ok (.iconst 0, 1) := by decide +kernel
theorem dX7_load_2 : decode cX7_load 2 = .ok (.putfield 44, 3) := by decide +kernel
theorem dX7_load_5 : decode cX7_load 5 = .ok (.iload_n 1, 1) := by decide +kernel
theorem dX7_load_6 : decode cX7_load 6 = .ok (.iconst 0, 1) := by decide +kernel
theorem dX7_load_7 : decode cX7_load 7 = .ok (.iconst 3, 1) := by decide +kernel
theorem dX7_load_8 : decode cX7_load 8 = .ok (.invokestatic 47, 3) := by decide +kernel
theorem dX7_load_11 : decode cX7_load 11 = .ok (.ifCond .ne 5, 3) := by decide +kernel
theorem dX7_load_14 : decode cX7_load 14 = .ok (.iconst (-1), 1) := by decide +kernel
theorem dX7_load_15 : decode cX7_load 15 = .ok (.ireturn, 1) := by decide +kernel
theorem dX7_load_16 : decode cX7_load 16 = .ok (.iload_n 1, 1) := by decide +kernel
theorem dX7_load_17 : decode cX7_load 17 = .ok (.iconst 1, 1) := by decide +kernel
theorem dX7_load_18 : decode cX7_load 18 = .ok (.if_icmp .ne 8, 3) := by decide +kernel
theorem dX7_load_21 : decode cX7_load 21 = .ok (.ldc 13, 2) := by decide +kernel
theorem dX7_load_23 : decode cX7_load 23 = .ok (.goto 17, 3) := by decide +kernel
theorem dX7_load_26 : decode cX7_load 26 = .ok (.iload_n 1, 1) := by decide +kernel
theorem dX7_load_27 : decode cX7_load 27 = .ok (.iconst 2, 1) := by decide +kernel
theorem dX7_load_28 : decode cX7_load 28 = .ok (.if_icmp .ne 9, 3) := by decide +kernel
theorem dX7_load_31 : decode cX7_load 31 = .ok (.sipush 16384, 3) := by decide +kernel
theorem dX7_load_34 : decode cX7_load 34 = .ok (.goto 6, 3) := by decide +kernel
theorem dX7_load_37 : decode cX7_load 37 = .ok (.sipush 8192, 3) := by decide +kernel
theorem dX7_load_40 : decode cX7_load 40 = .ok (.istore_n 3, 1) := by decide +kernel
theorem dX7_load_41 : decode cX7_load 41 = .ok (.iload_n 2, 1) := by decide +kernel
theorem dX7_load_42 : decode cX7_load 42 = .ok (.ifCond .lt 13, 3) := by decide +kernel
theorem dX7_load_45 : decode cX7_load 45 = .ok (.iload_n 2, 1) := by decide +kernel
theorem dX7_load_46 : decode cX7_load 46 = .ok (.iload_n 3, 1) := by decide +kernel
theorem dX7_load_47 : decode cX7_load 47 = .ok (.aload_n 0, 1) := by decide +kernel
theorem dX7_load_48 : decode cX7_load 48 = .ok (.getfield 245, 3) := by decide +kernel
theorem dX7_load_51 : decode cX7_load 51 = .ok (.isub, 1) := by decide +kernel
theorem dX7_load_52 : decode cX7_load 52 = .ok (.if_icmp .le 5, 3) := by decide +kernel
theorem dX7_load_55 : decode cX7_load 55 = .ok (.iconst (-1), 1) := by decide +kernel
theorem dX7_load_56 : decode cX7_load 56 = .ok (.ireturn, 1) := by decide +kernel
theorem dX7_load_57 : decode cX7_load 57 = .ok (.iconst 0, 1) := by decide +kernel
theorem dX7_load_58 : decode cX7_load 58 = .ok (.istore 4, 2) := by decide +kernel
theorem dX7_load_60 : decode cX7_load 60 = .ok (.iload 4, 2) := by decide +kernel
theorem dX7_load_62 : decode cX7_load 62 = .ok (.aload_n 0, 1) := by decide +kernel
theorem dX7_load_63 : decode cX7_load 63 = .ok (.getfield 245, 3) := by decide +kernel
theorem dX7_load_66 : decode cX7_load 66 = .ok (.if_icmp .ge 111, 3) := by decide +kernel
theorem dX7_load_69 : decode cX7_load 69 = .ok (.iload_n 1, 1) := by decide +kernel
theorem dX7_load_70 : decode cX7_load 70 = .ok (.tableswitch 84 0 2 #[26, 46, 64], 26) := by decide +kernel
theorem dX7_load_96 : decode cX7_load 96 = .ok (.aload_n 0, 1) := by decide +kernel
theorem dX7_load_97 : decode cX7_load 97 = .ok (.getfield 7, 3) := by decide +kernel
theorem dX7_load_100 : decode cX7_load 100 = .ok (.iload_n 2, 1) := by decide +kernel
theorem dX7_load_101 : decode cX7_load 101 = .ok (.iload 4, 2) := by decide +kernel
theorem dX7_load_103 : decode cX7_load 103 = .ok (.iadd, 1) := by decide +kernel
theorem dX7_load_104 : decode cX7_load 104 = .ok (.aload_n 0, 1) := by decide +kernel
theorem dX7_load_105 : decode cX7_load 105 = .ok (.getfield 41, 3) := by decide +kernel
theorem dX7_load_108 : decode cX7_load 108 = .ok (.iload 4, 2) := by decide +kernel
theorem dX7_load_110 : decode cX7_load 110 = .ok (.iaload, 1) := by decide +kernel
theorem dX7_load_111 : decode cX7_load 111 = .ok (.i2b, 1) := by decide +kernel
theorem dX7_load_112 : decode cX7_load 112 = .ok (.bastore, 1) := by decide +kernel
theorem dX7_load_113 : decode cX7_load 113 = .ok (.goto 58, 3) := by decide +kernel
theorem dX7_load_116 : decode cX7_load 116 = .ok (.aload_n 0, 1) := by decide +kernel
theorem dX7_load_117 : decode cX7_load 117 = .ok (.iload_n 2, 1) := by decide +kernel
theorem dX7_load_118 : decode cX7_load 118 = .ok (.iload 4, 2) := by decide +kernel
theorem dX7_load_120 : decode cX7_load 120 = .ok (.iadd, 1) := by decide +kernel
theorem dX7_load_121 : decode cX7_load 121 = .ok (.aload_n 0, 1) := by decide +kernel
theorem dX7_load_122 : decode cX7_load 122 = .ok (.getfield 41, 3) := by decide +kernel
theorem dX7_load_125 : decode cX7_load 125 = .ok (.iload 4, 2) := by decide +kernel
theorem dX7_load_127 : decode cX7_load 127 = .ok (.iaload, 1) := by decide +kernel
theorem dX7_load_128 : decode cX7_load 128 = .ok (.invokevirtual 76, 3) := by decide +kernel
theorem dX7_load_131 : decode cX7_load 131 = .ok (.goto 40, 3) := by decide +kernel
theorem dX7_load_134 : decode cX7_load 134 = .ok (.aload_n 0, 1) := by decide +kernel
theorem dX7_load_135 : decode cX7_load 135 = .ok (.getfield 17, 3) := by decide +kernel
theorem dX7_load_138 : decode cX7_load 138 = .ok (.iload_n 2, 1) := by decide +kernel
theorem dX7_load_139 : decode cX7_load 139 = .ok (.iload 4, 2) := by decide +kernel
theorem dX7_load_141 : decode cX7_load 141 = .ok (.iadd, 1) := by decide +kernel
theorem dX7_load_142 : decode cX7_load 142 = .ok (.aload_n 0, 1) := by decide +kernel
theorem dX7_load_143 : decode cX7_load 143 = .ok (.getfield 41, 3) := by decide +kernel
theorem dX7_load_146 : decode cX7_load 146 = .ok (.iload 4, 2) := by decide +kernel
theorem dX7_load_148 : decode cX7_load 148 = .ok (.iaload, 1) := by decide +kernel
theorem dX7_load_149 : decode cX7_load 149 = .ok (.i2b, 1) := by decide +kernel
theorem dX7_load_150 : decode cX7_load 150 = .ok (.bastore, 1) := by decide +kernel
theorem dX7_load_151 : decode cX7_load 151 = .ok (.goto 20, 3) := by decide +kernel
theorem dX7_load_154 : decode cX7_load 154 = .ok (.aload_n 0, 1) := by decide +kernel
theorem dX7_load_155 : decode cX7_load 155 = .ok (.getfield 20, 3) := by decide +kernel
theorem dX7_load_158 : decode cX7_load 158 = .ok (.iload_n 2, 1) := by decide +kernel
theorem dX7_load_159 : decode cX7_load 159 = .ok (.iload 4, 2) := by decide +kernel
theorem dX7_load_161 : decode cX7_load 161 = .ok (.iadd, 1) := by decide +kernel
theorem dX7_load_162 : decode cX7_load 162 = .ok (.aload_n 0, 1) := by decide +kernel
theorem dX7_load_163 : decode cX7_load 163 = .ok (.getfield 41, 3) := by decide +kernel
theorem dX7_load_166 : decode cX7_load 166 = .ok (.iload 4, 2) := by decide +kernel
theorem dX7_load_168 : decode cX7_load 168 = .ok (.iaload, 1) := by decide +kernel
theorem dX7_load_169 : decode cX7_load 169 = .ok (.i2b, 1) := by decide +kernel
theorem dX7_load_170 : decode cX7_load 170 = .ok (.bastore, 1) := by decide +kernel
theorem dX7_load_171 : decode cX7_load 171 = .ok (.iinc 4 1, 3) := by decide +kernel
theorem dX7_load_174 : decode cX7_load 174 = .ok (.goto (-114), 3) := by decide +kernel
theorem dX7_load_177 : decode cX7_load 177 = .ok (.aload_n 0, 1) := by decide +kernel
theorem dX7_load_178 : decode cX7_load 178 = .ok (.getfield 245, 3) := by decide +kernel
theorem dX7_load_181 : decode cX7_load 181 = .ok (.istore 4, 2) := by decide +kernel
theorem dX7_load_183 : decode cX7_load 183 = .ok (.aload_n 0, 1) := by decide +kernel
theorem dX7_load_184 : decode cX7_load 184 = .ok (.iconst 0, 1) := by decide +kernel
theorem dX7_load_185 : decode cX7_load 185 = .ok (.putfield 245, 3) := by decide +kernel
theorem dX7_load_188 : decode cX7_load 188 = .ok (.iload 4, 2) := by decide +kernel
theorem dX7_load_190 : decode cX7_load 190 = .ok (.ireturn, 1) := by decide +kernel
theorem dX7_reset_0 : decode cX7_reset 0 = .ok (.aload_n 0, 1) := by decide +kernel
theorem dX7_reset_1 : decode cX7_reset 1 = .ok (.iconst 0, 1) := by decide +kernel
theorem dX7_reset_2 : decode cX7_reset 2 = .ok (.putfield 44, 3) := by decide +kernel
theorem dX7_reset_5 : decode cX7_reset 5 = .ok (.aload_n 0, 1) := by decide +kernel
theorem dX7_reset_6 : decode cX7_reset 6 = .ok (.aload_n 0, 1) := by decide +kernel
theorem dX7_reset_7 : decode cX7_reset 7 = .ok (.iconst 0, 1) := by decide +kernel
theorem dX7_reset_8 : decode cX7_reset 8 = .ok (.invokevirtual 248, 3) := by decide +kernel
theorem dX7_reset_11 : decode cX7_reset 11 = .ok (.ldc 72, 2) := by decide +kernel
theorem dX7_reset_13 : decode cX7_reset 13 = .ok (.iand, 1) := by decide +kernel
theorem dX7_reset_14 : decode cX7_reset 14 = .ok (.putfield 115, 3) := by decide +kernel
theorem dX7_reset_17 : decode cX7_reset 17 = .ok (.aload_n 0, 1) := by decide +kernel
theorem dX7_reset_18 : decode cX7_reset 18 = .ok (.aload_n 0, 1) := by decide +kernel
theorem dX7_reset_19 : decode cX7_reset 19 = .ok (.iconst 2, 1) := by decide +kernel
theorem dX7_reset_20 : decode cX7_reset 20 = .ok (.invokevirtual 248, 3) := by decide +kernel
theorem dX7_reset_23 : decode cX7_reset 23 = .ok (.ldc 72, 2) := by decide +kernel
theorem dX7_reset_25 : decode cX7_reset 25 = .ok (.iand, 1) := by decide +kernel
theorem dX7_reset_26 : decode cX7_reset 26 = .ok (.putfield 128, 3) := by decide +kernel
theorem dX7_reset_29 : decode cX7_reset 29 = .ok (.aload_n 0, 1) := by decide +kernel
theorem dX7_reset_30 : decode cX7_reset 30 = .ok (.iconst 0, 1) := by decide +kernel
theorem dX7_reset_31 : decode cX7_reset 31 = .ok (.putfield 131, 3) := by decide +kernel
theorem dX7_reset_34 : decode cX7_reset 34 = .ok (.aload_n 0, 1) := by decide +kernel
theorem dX7_reset_35 : decode cX7_reset 35 = .ok (.iconst 0, 1) := by decide +kernel
theorem dX7_reset_36 : decode cX7_reset 36 = .ok (.putfield 34, 3) := by decide +kernel
theorem dX7_reset_39 : decode cX7_reset 39 = .ok (.aload_n 0, 1) := by decide +kernel
theorem dX7_reset_40 : decode cX7_reset 40 = .ok (.iconst 0, 1) := by decide +kernel
theorem dX7_reset_41 : decode cX7_reset 41 = .ok (.putfield 180, 3) := by decide +kernel
theorem dX7_reset_44 : decode cX7_reset 44 = .ok (.iconst 0, 1) := by decide +kernel
theorem dX7_reset_45 : decode cX7_reset 45 = .ok (.istore_n 1, 1) := by decide +kernel
theorem dX7_reset_46 : decode cX7_reset 46 = .ok (.iload_n 1, 1) := by decide +kernel
theorem dX7_reset_47 : decode cX7_reset 47 = .ok (.bipush 16, 2) := by decide +kernel
theorem dX7_reset_49 : decode cX7_reset 49 = .ok (.if_icmp .ge 16, 3) := by decide +kernel
theorem dX7_reset_52 : decode cX7_reset 52 = .ok (.aload_n 0, 1) := by decide +kernel
theorem dX7_reset_53 : decode cX7_reset 53 = .ok (.getfield 38, 3) := by decide +kernel
theorem dX7_reset_56 : decode cX7_reset 56 = .ok (.iload_n 1, 1) := by decide +kernel
theorem dX7_reset_57 : decode cX7_reset 57 = .ok (.iconst 0, 1) := by decide +kernel
theorem dX7_reset_58 : decode cX7_reset 58 = .ok (.bastore, 1) := by decide +kernel
theorem dX7_reset_59 : decode cX7_reset 59 = .ok (.iinc 1 1, 3) := by decide +kernel
theorem dX7_reset_62 : decode cX7_reset 62 = .ok (.goto (-16), 3) := by decide +kernel
theorem dX7_reset_65 : decode cX7_reset 65 = .ok (.return_, 1) := by decide +kernel
theorem dX7_plainWord_0 : decode cX7_plainWord 0 = .ok (.iload_n 1, 1) := by decide +kernel
theorem dX7_plainWord_1 : decode cX7_plainWord 1 = .ok (.invokestatic 56, 3) := by decide +kernel
theorem dX7_plainWord_4 : decode cX7_plainWord 4 = .ok (.ifCond .eq 7, 3) := by decide +kernel
theorem dX7_plainWord_7 : decode cX7_plainWord 7 = .ok (.iconst 0, 1) := by decide +kernel
theorem dX7_plainWord_8 : decode cX7_plainWord 8 = .ok (.goto 20, 3) := by decide +kernel
theorem dX7_plainWord_11 : decode cX7_plainWord 11 = .ok (.sipush 256, 3) := by decide +kernel
theorem dX7_plainWord_14 : decode cX7_plainWord 14 = .ok (.aload_n 0, 1) := by decide +kernel
theorem dX7_plainWord_15 : decode cX7_plainWord 15 = .ok (.iload_n 1, 1) := by decide +kernel
theorem dX7_plainWord_16 : decode cX7_plainWord 16 = .ok (.invokevirtual 64, 3) := by decide +kernel
theorem dX7_plainWord_19 : decode cX7_plainWord 19 = .ok (.imul, 1) := by decide +kernel
theorem dX7_plainWord_20 : decode cX7_plainWord 20 = .ok (.aload_n 0, 1) := by decide +kernel
theorem dX7_plainWord_21 : decode cX7_plainWord 21 = .ok (.iload_n 1, 1) := by decide +kernel
theorem dX7_plainWord_22 : decode cX7_plainWord 22 = .ok (.iconst 1, 1) := by decide +kernel
theorem dX7_plainWord_23 : decode cX7_plainWord 23 = .ok (.iadd, 1) := by decide +kernel
theorem dX7_plainWord_24 : decode cX7_plainWord 24 = .ok (.invokevirtual 64, 3) := by decide +kernel
theorem dX7_plainWord_27 : decode cX7_plainWord 27 = .ok (.iadd, 1) := by decide +kernel
theorem dX7_plainWord_28 : decode cX7_plainWord 28 = .ok (.ireturn, 1) := by decide +kernel
theorem dX7_state_0 : decode cX7_state 0 = .ok (.aload_n 0, 1) := by decide +kernel
theorem dX7_state_1 : decode cX7_state 1 = .ok (.iconst 0, 1) := by decide +kernel
theorem dX7_state_2 : decode cX7_state 2 = .ok (.putfield 44, 3) := by decide +kernel
theorem dX7_state_5 : decode cX7_state 5 = .ok (.iload_n 1, 1) := by decide +kernel
theorem dX7_state_6 : decode cX7_state 6 = .ok (.bipush 16, 2) := by decide +kernel
theorem dX7_state_8 : decode cX7_state 8 = .ok (.bipush 31, 2) := by decide +kernel
theorem dX7_state_10 : decode cX7_state 10 = .ok (.invokestatic 47, 3) := by decide +kernel
theorem dX7_state_13 : decode cX7_state 13 = .ok (.ifCond .eq 16, 3) := by decide +kernel
theorem dX7_state_16 : decode cX7_state 16 = .ok (.aload_n 0, 1) := by decide +kernel
theorem dX7_state_17 : decode cX7_state 17 = .ok (.aload_n 0, 1) := by decide +kernel
theorem dX7_state_18 : decode cX7_state 18 = .ok (.iload_n 1, 1) := by decide +kernel
theorem dX7_state_19 : decode cX7_state 19 = .ok (.bipush 16, 2) := by decide +kernel
theorem dX7_state_21 : decode cX7_state 21 = .ok (.isub, 1) := by decide +kernel
theorem dX7_state_22 : decode cX7_state 22 = .ok (.invokevirtual 119, 3) := by decide +kernel
theorem dX7_state_25 : decode cX7_state 25 = .ok (.invokevirtual 248, 3) := by decide +kernel
theorem dX7_state_28 : decode cX7_state 28 = .ok (.ireturn, 1) := by decide +kernel
theorem dX7_state_29 : decode cX7_state 29 = .ok (.iload_n 1, 1) := by decide +kernel
theorem dX7_state_30 : decode cX7_state 30 = .ok (.tableswitch 68 0 5 #[38, 43, 48, 53, 58, 63], 38) := by decide +kernel
theorem dX7_state_68 : decode cX7_state 68 = .ok (.aload_n 0, 1) := by decide +kernel
theorem dX7_state_69 : decode cX7_state 69 = .ok (.getfield 128, 3) := by decide +kernel
theorem dX7_state_72 : decode cX7_state 72 = .ok (.ireturn, 1) := by decide +kernel
theorem dX7_state_73 : decode cX7_state 73 = .ok (.aload_n 0, 1) := by decide +kernel
theorem dX7_state_74 : decode cX7_state 74 = .ok (.getfield 115, 3) := by decide +kernel
theorem dX7_state_77 : decode cX7_state 77 = .ok (.ireturn, 1) := by decide +kernel
theorem dX7_state_78 : decode cX7_state 78 = .ok (.aload_n 0, 1) := by decide +kernel
theorem dX7_state_79 : decode cX7_state 79 = .ok (.getfield 131, 3) := by decide +kernel
theorem dX7_state_82 : decode cX7_state 82 = .ok (.ireturn, 1) := by decide +kernel
theorem dX7_state_83 : decode cX7_state 83 = .ok (.aload_n 0, 1) := by decide +kernel
theorem dX7_state_84 : decode cX7_state 84 = .ok (.getfield 34, 3) := by decide +kernel
theorem dX7_state_87 : decode cX7_state 87 = .ok (.ireturn, 1) := by decide +kernel
theorem dX7_state_88 : decode cX7_state 88 = .ok (.aload_n 0, 1) := by decide +kernel
theorem dX7_state_89 : decode cX7_state 89 = .ok (.getfield 242, 3) := by decide +kernel
theorem dX7_state_92 : decode cX7_state 92 = .ok (.ireturn, 1) := by decide +kernel
theorem dX7_state_93 : decode cX7_state 93 = .ok (.aload_n 0, 1) := by decide +kernel
theorem dX7_state_94 : decode cX7_state 94 = .ok (.getfield 236, 3) := by decide +kernel
theorem dX7_state_97 : decode cX7_state 97 = .ok (.ireturn, 1) := by decide +kernel
theorem dX7_state_98 : decode cX7_state 98 = .ok (.iconst (-1), 1) := by decide +kernel
theorem dX7_state_99 : decode cX7_state 99 = .ok (.ireturn, 1) := by decide +kernel
theorem dX7_peek_0 : decode cX7_peek 0 = .ok (.aload_n 0, 1) := by decide +kernel
theorem dX7_peek_1 : decode cX7_peek 1 = .ok (.iconst 0, 1) := by decide +kernel
theorem dX7_peek_2 : decode cX7_peek 2 = .ok (.putfield 44, 3) := by decide +kernel
theorem dX7_peek_5 : decode cX7_peek 5 = .ok (.iload_n 1, 1) := by decide +kernel
theorem dX7_peek_6 : decode cX7_peek 6 = .ok (.iconst 0, 1) := by decide +kernel
theorem dX7_peek_7 : decode cX7_peek 7 = .ok (.ldc 118, 2) := by decide +kernel
theorem dX7_peek_9 : decode cX7_peek 9 = .ok (.invokestatic 47, 3) := by decide +kernel
theorem dX7_peek_12 : decode cX7_peek 12 = .ok (.ifCond .eq 11, 3) := by decide +kernel
theorem dX7_peek_15 : decode cX7_peek 15 = .ok (.aload_n 0, 1) := by decide +kernel
theorem dX7_peek_16 : decode cX7_peek 16 = .ok (.iload_n 1, 1) := by decide +kernel
theorem dX7_peek_17 : decode cX7_peek 17 = .ok (.invokevirtual 64, 3) := by decide +kernel
theorem dX7_peek_20 : decode cX7_peek 20 = .ok (.goto 4, 3) := by decide +kernel
theorem dX7_peek_23 : decode cX7_peek 23 = .ok (.iconst (-1), 1) := by decide +kernel
theorem dX7_peek_24 : decode cX7_peek 24 = .ok (.ireturn, 1) := by decide +kernel
theorem dX7_set_0 : decode cX7_set 0 = .ok (.aload_n 0, 1) := by decide +kernel
theorem dX7_set_1 : decode cX7_set 1 = .ok (.iconst 0, 1) := by decide +kernel
theorem dX7_set_2 : decode cX7_set 2 = .ok (.putfield 44, 3) := by decide +kernel
theorem dX7_set_5 : decode cX7_set 5 = .ok (.iload_n 1, 1) := by decide +kernel
theorem dX7_set_6 : decode cX7_set 6 = .ok (.iconst 0, 1) := by decide +kernel
theorem dX7_set_7 : decode cX7_set 7 = .ok (.iconst 2, 1) := by decide +kernel
theorem dX7_set_8 : decode cX7_set 8 = .ok (.invokestatic 47, 3) := by decide +kernel
theorem dX7_set_11 : decode cX7_set 11 = .ok (.ifCond .ne 5, 3) := by decide +kernel
theorem dX7_set_14 : decode cX7_set 14 = .ok (.iconst 0, 1) := by decide +kernel
theorem dX7_set_15 : decode cX7_set 15 = .ok (.ireturn, 1) := by decide +kernel
theorem dX7_set_16 : decode cX7_set 16 = .ok (.iload_n 1, 1) := by decide +kernel
theorem dX7_set_17 : decode cX7_set 17 = .ok (.ifCond .ne 14, 3) := by decide +kernel
theorem dX7_set_20 : decode cX7_set 20 = .ok (.aload_n 0, 1) := by decide +kernel
theorem dX7_set_21 : decode cX7_set 21 = .ok (.iload_n 2, 1) := by decide +kernel
theorem dX7_set_22 : decode cX7_set 22 = .ok (.ldc 72, 2) := by decide +kernel
theorem dX7_set_24 : decode cX7_set 24 = .ok (.iand, 1) := by decide +kernel
theorem dX7_set_25 : decode cX7_set 25 = .ok (.putfield 128, 3) := by decide +kernel
theorem dX7_set_28 : decode cX7_set 28 = .ok (.goto 27, 3) := by decide +kernel
theorem dX7_set_31 : decode cX7_set 31 = .ok (.iload_n 1, 1) := by decide +kernel
theorem dX7_set_32 : decode cX7_set 32 = .ok (.iconst 1, 1) := by decide +kernel
theorem dX7_set_33 : decode cX7_set 33 = .ok (.if_icmp .ne 14, 3) := by decide +kernel
theorem dX7_set_36 : decode cX7_set 36 = .ok (.aload_n 0, 1) := by decide +kernel
theorem dX7_set_37 : decode cX7_set 37 = .ok (.iload_n 2, 1) := by decide +kernel
theorem dX7_set_38 : decode cX7_set 38 = .ok (.ldc 72, 2) := by decide +kernel
theorem dX7_set_40 : decode cX7_set 40 = .ok (.iand, 1) := by decide +kernel
theorem dX7_set_41 : decode cX7_set 41 = .ok (.putfield 115, 3) := by decide +kernel
theorem dX7_set_44 : decode cX7_set 44 = .ok (.goto 11, 3) := by decide +kernel
theorem dX7_set_47 : decode cX7_set 47 = .ok (.aload_n 0, 1) := by decide +kernel
theorem dX7_set_48 : decode cX7_set 48 = .ok (.iload_n 2, 1) := by decide +kernel
theorem dX7_set_49 : decode cX7_set 49 = .ok (.ldc 208, 2) := by decide +kernel
theorem dX7_set_51 : decode cX7_set 51 = .ok (.iand, 1) := by decide +kernel
theorem dX7_set_52 : decode cX7_set 52 = .ok (.putfield 131, 3) := by decide +kernel
theorem dX7_set_55 : decode cX7_set 55 = .ok (.aload_n 0, 1) := by decide +kernel
theorem dX7_set_56 : decode cX7_set 56 = .ok (.iconst 0, 1) := by decide +kernel
theorem dX7_set_57 : decode cX7_set 57 = .ok (.putfield 34, 3) := by decide +kernel
theorem dX7_set_60 : decode cX7_set 60 = .ok (.iconst 1, 1) := by decide +kernel
theorem dX7_set_61 : decode cX7_set 61 = .ok (.ireturn, 1) := by decide +kernel
theorem dX7_picture_0 : decode cX7_picture 0 = .ok (.aload_n 0, 1) := by decide +kernel
theorem dX7_picture_1 : decode cX7_picture 1 = .ok (.iconst 0, 1) := by decide +kernel
theorem dX7_picture_2 : decode cX7_picture 2 = .ok (.putfield 44, 3) := by decide +kernel
theorem dX7_picture_5 : decode cX7_picture 5 = .ok (.iload_n 1, 1) := by decide +kernel
theorem dX7_picture_6 : decode cX7_picture 6 = .ok (.bipush 8, 2) := by decide +kernel
theorem dX7_picture_8 : decode cX7_picture 8 = .ok (.bipush 15, 2) := by decide +kernel
theorem dX7_picture_10 : decode cX7_picture 10 = .ok (.invokestatic 47, 3) := by decide +kernel
theorem dX7_picture_13 : decode cX7_picture 13 = .ok (.ifCond .eq 13, 3) := by decide +kernel
theorem dX7_picture_16 : decode cX7_picture 16 = .ok (.aload_n 0, 1) := by decide +kernel
theorem dX7_picture_17 : decode cX7_picture 17 = .ok (.getfield 23, 3) := by decide +kernel
theorem dX7_picture_20 : decode cX7_picture 20 = .ok (.iload_n 1, 1) := by decide +kernel
theorem dX7_picture_21 : decode cX7_picture 21 = .ok (.bipush 8, 2) := by decide +kernel
theorem dX7_picture_23 : decode cX7_picture 23 = .ok (.isub, 1) := by decide +kernel
theorem dX7_picture_24 : decode cX7_picture 24 = .ok (.iaload, 1) := by decide +kernel
theorem dX7_picture_25 : decode cX7_picture 25 = .ok (.ireturn, 1) := by decide +kernel
theorem dX7_picture_26 : decode cX7_picture 26 = .ok (.iload_n 1, 1) := by decide +kernel
theorem dX7_picture_27 : decode cX7_picture 27 = .ok (.tableswitch 65 0 3 #[29, 34, 39, 52], 29) := by decide +kernel
theorem dX7_picture_56 : decode cX7_picture 56 = .ok (.aload_n 0, 1) := by decide +kernel
theorem dX7_picture_57 : decode cX7_picture 57 = .ok (.getfield 80, 3) := by decide +kernel
theorem dX7_picture_60 : decode cX7_picture 60 = .ok (.ireturn, 1) := by decide +kernel
theorem dX7_picture_61 : decode cX7_picture 61 = .ok (.aload_n 0, 1) := by decide +kernel
theorem dX7_picture_62 : decode cX7_picture 62 = .ok (.getfield 83, 3) := by decide +kernel
theorem dX7_picture_65 : decode cX7_picture 65 = .ok (.ireturn, 1) := by decide +kernel
theorem dX7_picture_66 : decode cX7_picture 66 = .ok (.aload_n 0, 1) := by decide +kernel
theorem dX7_picture_67 : decode cX7_picture 67 = .ok (.getfield 95, 3) := by decide +kernel
theorem dX7_picture_70 : decode cX7_picture 70 = .ok (.ifCond .eq 7, 3) := by decide +kernel
theorem dX7_picture_73 : decode cX7_picture 73 = .ok (.iconst 1, 1) := by decide +kernel
theorem dX7_picture_74 : decode cX7_picture 74 = .ok (.goto 4, 3) := by decide +kernel
theorem dX7_picture_77 : decode cX7_picture 77 = .ok (.iconst 0, 1) := by decide +kernel
theorem dX7_picture_78 : decode cX7_picture 78 = .ok (.ireturn, 1) := by decide +kernel
theorem dX7_picture_79 : decode cX7_picture 79 = .ok (.aload_n 0, 1) := by decide +kernel
theorem dX7_picture_80 : decode cX7_picture 80 = .ok (.getfield 99, 3) := by decide +kernel
theorem dX7_picture_83 : decode cX7_picture 83 = .ok (.ifCond .eq 7, 3) := by decide +kernel
theorem dX7_picture_86 : decode cX7_picture 86 = .ok (.iconst 1, 1) := by decide +kernel
theorem dX7_picture_87 : decode cX7_picture 87 = .ok (.goto 4, 3) := by decide +kernel
theorem dX7_picture_90 : decode cX7_picture 90 = .ok (.iconst 0, 1) := by decide +kernel
theorem dX7_picture_91 : decode cX7_picture 91 = .ok (.ireturn, 1) := by decide +kernel
theorem dX7_picture_92 : decode cX7_picture 92 = .ok (.iconst (-1), 1) := by decide +kernel
theorem dX7_picture_93 : decode cX7_picture 93 = .ok (.ireturn, 1) := by decide +kernel
theorem dX7_vram_0 : decode cX7_vram 0 = .ok (.aload_n 0, 1) := by decide +kernel
theorem dX7_vram_1 : decode cX7_vram 1 = .ok (.iload_n 1, 1) := by decide +kernel
theorem dX7_vram_2 : decode cX7_vram 2 = .ok (.iconst 0, 1) := by decide +kernel
theorem dX7_vram_3 : decode cX7_vram 3 = .ok (.sipush 16383, 3) := by decide +kernel
theorem dX7_vram_6 : decode cX7_vram 6 = .ok (.invokestatic 47, 3) := by decide +kernel
theorem dX7_vram_9 : decode cX7_vram 9 = .ok (.ifCond .eq 7, 3) := by decide +kernel
theorem dX7_vram_12 : decode cX7_vram 12 = .ok (.iconst 0, 1) := by decide +kernel
theorem dX7_vram_13 : decode cX7_vram 13 = .ok (.goto 4, 3) := by decide +kernel
theorem dX7_vram_16 : decode cX7_vram 16 = .ok (.iconst 1, 1) := by decide +kernel
theorem dX7_vram_17 : decode cX7_vram 17 = .ok (.putfield 44, 3) := by decide +kernel
theorem dX7_vram_20 : decode cX7_vram 20 = .ok (.aload_n 0, 1) := by decide +kernel
theorem dX7_vram_21 : decode cX7_vram 21 = .ok (.getfield 44, 3) := by decide +kernel
theorem dX7_vram_24 : decode cX7_vram 24 = .ok (.ifCond .le 7, 3) := by decide +kernel
theorem dX7_vram_27 : decode cX7_vram 27 = .ok (.iconst 0, 1) := by decide +kernel
theorem dX7_vram_28 : decode cX7_vram 28 = .ok (.goto 13, 3) := by decide +kernel
theorem dX7_vram_31 : decode cX7_vram 31 = .ok (.aload_n 0, 1) := by decide +kernel
theorem dX7_vram_32 : decode cX7_vram 32 = .ok (.getfield 17, 3) := by decide +kernel
theorem dX7_vram_35 : decode cX7_vram 35 = .ok (.iload_n 1, 1) := by decide +kernel
theorem dX7_vram_36 : decode cX7_vram 36 = .ok (.baload, 1) := by decide +kernel
theorem dX7_vram_37 : decode cX7_vram 37 = .ok (.sipush 255, 3) := by decide +kernel
theorem dX7_vram_40 : decode cX7_vram 40 = .ok (.iand, 1) := by decide +kernel
theorem dX7_vram_41 : decode cX7_vram 41 = .ok (.ireturn, 1) := by decide +kernel
theorem dX7_grom_0 : decode cX7_grom 0 = .ok (.aload_n 0, 1) := by decide +kernel
theorem dX7_grom_1 : decode cX7_grom 1 = .ok (.iconst 0, 1) := by decide +kernel
theorem dX7_grom_2 : decode cX7_grom 2 = .ok (.putfield 44, 3) := by decide +kernel
theorem dX7_grom_5 : decode cX7_grom 5 = .ok (.iload_n 1, 1) := by decide +kernel
theorem dX7_grom_6 : decode cX7_grom 6 = .ok (.ifCond .ne 10, 3) := by decide +kernel
theorem dX7_grom_9 : decode cX7_grom 9 = .ok (.aload_n 0, 1) := by decide +kernel
theorem dX7_grom_10 : decode cX7_grom 10 = .ok (.getfield 86, 3) := by decide +kernel
theorem dX7_grom_13 : decode cX7_grom 13 = .ok (.goto 36, 3) := by decide +kernel
theorem dX7_grom_16 : decode cX7_grom 16 = .ok (.iload_n 1, 1) := by decide +kernel
theorem dX7_grom_17 : decode cX7_grom 17 = .ok (.iconst 1, 1) := by decide +kernel
theorem dX7_grom_18 : decode cX7_grom 18 = .ok (.if_icmp .ne 10, 3) := by decide +kernel
theorem dX7_grom_21 : decode cX7_grom 21 = .ok (.aload_n 0, 1) := by decide +kernel
theorem dX7_grom_22 : decode cX7_grom 22 = .ok (.getfield 89, 3) := by decide +kernel
theorem dX7_grom_25 : decode cX7_grom 25 = .ok (.goto 24, 3) := by decide +kernel
theorem dX7_grom_28 : decode cX7_grom 28 = .ok (.iload_n 1, 1) := by decide +kernel
theorem dX7_grom_29 : decode cX7_grom 29 = .ok (.iconst 2, 1) := by decide +kernel
theorem dX7_grom_30 : decode cX7_grom 30 = .ok (.if_icmp .ne 18, 3) := by decide +kernel
theorem dX7_grom_33 : decode cX7_grom 33 = .ok (.aload_n 0, 1) := by decide +kernel
theorem dX7_grom_34 : decode cX7_grom 34 = .ok (.getfield 105, 3) := by decide +kernel
theorem dX7_grom_37 : decode cX7_grom 37 = .ok (.ifCond .eq 7, 3) := by decide +kernel
theorem dX7_grom_40 : decode cX7_grom 40 = .ok (.iconst 1, 1) := by decide +kernel
theorem dX7_grom_41 : decode cX7_grom 41 = .ok (.goto 8, 3) := by decide +kernel
theorem dX7_grom_44 : decode cX7_grom 44 = .ok (.iconst 0, 1) := by decide +kernel
theorem dX7_grom_45 : decode cX7_grom 45 = .ok (.goto 4, 3) := by decide +kernel
theorem dX7_grom_48 : decode cX7_grom 48 = .ok (.iconst (-1), 1) := by decide +kernel
theorem dX7_grom_49 : decode cX7_grom 49 = .ok (.ireturn, 1) := by decide +kernel
theorem dX7_frame_0 : decode cX7_frame 0 = .ok (.aload_n 0, 1) := by decide +kernel
theorem dX7_frame_1 : decode cX7_frame 1 = .ok (.iconst 0, 1) := by decide +kernel
