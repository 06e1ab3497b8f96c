theorem dX3_colourAt_153 : decode cX3_colourAt 153 = .ok (.iload 6, 2) := by decide +kernel
theorem dX3_colourAt_155 : decode cX3_colourAt 155 = .ok (.bipush 15, 2) := by decide +kernel
theorem dX3_colourAt_157 : decode cX3_colourAt 157 = .ok (.iand, 1) := by decide +kernel
theorem dX3_colourAt_158 : decode cX3_colourAt 158 = .ok (.istore 8, 2) := by decide +kernel
theorem dX3_colourAt_160 : decode cX3_colourAt 160 = .ok (.iload 8, 2) := by decide +kernel
theorem dX3_colourAt_162 : decode cX3_colourAt 162 = .ok (.ifCond .ne 7, 3) := by decide +kernel
theorem dX3_colourAt_165 : decode cX3_colourAt 165 = .ok (.iload_n 3, 1) := by decide +kernel
theorem dX3_colourAt_166 : decode cX3_colourAt 166 = .ok (.goto 5, 3) := by decide +kernel
theorem dX3_colourAt_169 : decode cX3_colourAt 169 = .ok (.iload 8, 2) := by decide +kernel
theorem dX3_colourAt_171 : decode cX3_colourAt 171 = .ok (.ireturn, 1) := by decide +kernel
theorem dX4_init_0 : decode cX4_init 0 = .ok (.aload_n 0, 1) := by decide +kernel
theorem dX4_init_1 : decode cX4_init 1 = .ok (.invokespecial 1, 3) := by decide +kernel
theorem dX4_init_4 : decode cX4_init 4 = .ok (.aload_n 0, 1) := by decide +kernel
theorem dX4_init_5 : decode cX4_init 5 = .ok (.iconst 2, 1) := by decide +kernel
theorem dX4_init_6 : decode cX4_init 6 = .ok (.putfield 9, 3) := by decide +kernel
theorem dX4_init_9 : decode cX4_init 9 = .ok (.aload_n 0, 1) := by decide +kernel
theorem dX4_init_10 : decode cX4_init 10 = .ok (.aload_n 1, 1) := by decide +kernel
theorem dX4_init_11 : decode cX4_init 11 = .ok (.putfield 13, 3) := by decide +kernel
theorem dX4_init_14 : decode cX4_init 14 = .ok (.aload_n 0, 1) := by decide +kernel
theorem dX4_init_15 : decode cX4_init 15 = .ok (.aload_n 2, 1) := by decide +kernel
theorem dX4_init_16 : decode cX4_init 16 = .ok (.putfield 17, 3) := by decide +kernel
theorem dX4_init_19 : decode cX4_init 19 = .ok (.aload_n 0, 1) := by decide +kernel
theorem dX4_init_20 : decode cX4_init 20 = .ok (.aload_n 3, 1) := by decide +kernel
theorem dX4_init_21 : decode cX4_init 21 = .ok (.putfield 21, 3) := by decide +kernel
theorem dX4_init_24 : decode cX4_init 24 = .ok (.return_, 1) := by decide +kernel
set_option maxRecDepth 20000 in
theorem ggX4_restart_X2_wordAt : GoodIn wsX4_restart wsX2_wordAt := goodIn_r _ [12, 13, 14, 15, 16, 11, 17, 18, 19, 20, 21, 22, 23, 24, 25, 26, 27, 28, 29, 30, 31, 32, 33, 34, 35, 36, 37, 38, 39, 40, 41, 42, 43, 44, 45, 46, 47, 48, 49, 50, 51, 52, 53, 54, 55, 56, 57, 58, 59, 60, 61, 62, 63, 64, 65, 66, 67, 80, 81, 82, 83, 84, 85, 86, 87, 88, 89, 90, 91, 92, 93, 94, 95] (by decide +kernel) (by decide +kernel)
set_option maxRecDepth 20000 in
theorem gX4_restart_X2_wordAt : GoodIn wsX4_restart (wsV RX4 25 RX2 yX2_wordAt wsX2_wordAt) := goodIn_app (goodIn_of _ (by decide +kernel)) ggX4_restart_X2_wordAt
theorem dX4_restart_0 : decode cX4_restart 0 = .ok (.aload_n 0, 1) := by decide +kernel
theorem dX4_restart_1 : decode cX4_restart 1 = .ok (.aload_n 0, 1) := by decide +kernel
theorem dX4_restart_2 : decode cX4_restart 2 = .ok (.getfield 13, 3) := by decide +kernel
theorem dX4_restart_5 : decode cX4_restart 5 = .ok (.iconst 0, 1) := by decide +kernel
theorem dX4_restart_6 : decode cX4_restart 6 = .ok (.invokevirtual 25, 3) := by decide +kernel
theorem dX4_restart_9 : decode cX4_restart 9 = .ok (.ldc 31, 2) := by decide +kernel
theorem dX4_restart_11 : decode cX4_restart 11 = .ok (.iand, 1) := by decide +kernel
theorem dX4_restart_12 : decode cX4_restart 12 = .ok (.putfield 32, 3) := by decide +kernel
theorem dX4_restart_15 : decode cX4_restart 15 = .ok (.aload_n 0, 1) := by decide +kernel
theorem dX4_restart_16 : decode cX4_restart 16 = .ok (.aload_n 0, 1) := by decide +kernel
theorem dX4_restart_17 : decode cX4_restart 17 = .ok (.getfield 13, 3) := by decide +kernel
theorem dX4_restart_20 : decode cX4_restart 20 = .ok (.iconst 2, 1) := by decide +kernel
theorem dX4_restart_21 : decode cX4_restart 21 = .ok (.invokevirtual 25, 3) := by decide +kernel
theorem dX4_restart_24 : decode cX4_restart 24 = .ok (.ldc 31, 2) := by decide +kernel
theorem dX4_restart_26 : decode cX4_restart 26 = .ok (.iand, 1) := by decide +kernel
theorem dX4_restart_27 : decode cX4_restart 27 = .ok (.putfield 35, 3) := by decide +kernel
theorem dX4_restart_30 : decode cX4_restart 30 = .ok (.aload_n 0, 1) := by decide +kernel
theorem dX4_restart_31 : decode cX4_restart 31 = .ok (.iconst 0, 1) := by decide +kernel
theorem dX4_restart_32 : decode cX4_restart 32 = .ok (.putfield 38, 3) := by decide +kernel
theorem dX4_restart_35 : decode cX4_restart 35 = .ok (.aload_n 0, 1) := by decide +kernel
theorem dX4_restart_36 : decode cX4_restart 36 = .ok (.iconst 0, 1) := by decide +kernel
theorem dX4_restart_37 : decode cX4_restart 37 = .ok (.putfield 9, 3) := by decide +kernel
theorem dX4_restart_40 : decode cX4_restart 40 = .ok (.aload_n 0, 1) := by decide +kernel
theorem dX4_restart_41 : decode cX4_restart 41 = .ok (.iconst 0, 1) := by decide +kernel
theorem dX4_restart_42 : decode cX4_restart 42 = .ok (.putfield 41, 3) := by decide +kernel
theorem dX4_restart_45 : decode cX4_restart 45 = .ok (.return_, 1) := by decide +kernel
theorem dX4_fetch_0 : decode cX4_fetch 0 = .ok (.aload_n 0, 1) := by decide +kernel
theorem dX4_fetch_1 : decode cX4_fetch 1 = .ok (.getfield 9, 3) := by decide +kernel
theorem dX4_fetch_4 : decode cX4_fetch 4 = .ok (.iconst 2, 1) := by decide +kernel
theorem dX4_fetch_5 : decode cX4_fetch 5 = .ok (.if_icmp .ne 5, 3) := by decide +kernel
theorem dX4_fetch_8 : decode cX4_fetch 8 = .ok (.iconst 0, 1) := by decide +kernel
theorem dX4_fetch_9 : decode cX4_fetch 9 = .ok (.ireturn, 1) := by decide +kernel
theorem dX4_fetch_10 : decode cX4_fetch 10 = .ok (.aload_n 0, 1) := by decide +kernel
theorem dX4_fetch_11 : decode cX4_fetch 11 = .ok (.getfield 44, 3) := by decide +kernel
theorem dX4_fetch_14 : decode cX4_fetch 14 = .ok (.ifCond .ne 7, 3) := by decide +kernel
theorem dX4_fetch_17 : decode cX4_fetch 17 = .ok (.aload_n 0, 1) := by decide +kernel
theorem dX4_fetch_18 : decode cX4_fetch 18 = .ok (.invokevirtual 48, 3) := by decide +kernel
theorem dX4_fetch_21 : decode cX4_fetch 21 = .ok (.aload_n 0, 1) := by decide +kernel
theorem dX4_fetch_22 : decode cX4_fetch 22 = .ok (.getfield 9, 3) := by decide +kernel
theorem dX4_fetch_25 : decode cX4_fetch 25 = .ok (.ifCond .ne 14, 3) := by decide +kernel
theorem dX4_fetch_28 : decode cX4_fetch 28 = .ok (.aload_n 0, 1) := by decide +kernel
theorem dX4_fetch_29 : decode cX4_fetch 29 = .ok (.invokevirtual 51, 3) := by decide +kernel
theorem dX4_fetch_32 : decode cX4_fetch 32 = .ok (.ifCond .eq 7, 3) := by decide +kernel
theorem dX4_fetch_35 : decode cX4_fetch 35 = .ok (.iconst 1, 1) := by decide +kernel
theorem dX4_fetch_36 : decode cX4_fetch 36 = .ok (.goto 4, 3) := by decide +kernel
theorem dX4_fetch_39 : decode cX4_fetch 39 = .ok (.iconst 0, 1) := by decide +kernel
theorem dX4_fetch_40 : decode cX4_fetch 40 = .ok (.ireturn, 1) := by decide +kernel
theorem dX5_init_0 : decode cX5_init 0 = .ok (.aload_n 0, 1) := by decide +kernel
theorem dX5_init_1 : decode cX5_init 1 = .ok (.invokespecial 1, 3) := by decide +kernel
theorem dX5_init_4 : decode cX5_init 4 = .ok (.aload_n 0, 1) := by decide +kernel
theorem dX5_init_5 : decode cX5_init 5 = .ok (.bipush 64, 2) := by decide +kernel
theorem dX5_init_7 : decode cX5_init 7 = .ok (.newarray .long, 2) := by decide +kernel
theorem dX5_init_9 : decode cX5_init 9 = .ok (.putfield 7, 3) := by decide +kernel
theorem dX5_init_12 : decode cX5_init 12 = .ok (.aload_n 0, 1) := by decide +kernel
theorem dX5_init_13 : decode cX5_init 13 = .ok (.aload_n 1, 1) := by decide +kernel
theorem dX5_init_14 : decode cX5_init 14 = .ok (.putfield 13, 3) := by decide +kernel
theorem dX5_init_17 : decode cX5_init 17 = .ok (.return_, 1) := by decide +kernel
theorem dX5_exists_0 : decode cX5_exists 0 = .ok (.iload_n 0, 1) := by decide +kernel
theorem dX5_exists_1 : decode cX5_exists 1 = .ok (.ifCond .lt 14, 3) := by decide +kernel
theorem dX5_exists_4 : decode cX5_exists 4 = .ok (.iload_n 0, 1) := by decide +kernel
theorem dX5_exists_5 : decode cX5_exists 5 = .ok (.sipush 4095, 3) := by decide +kernel
theorem dX5_exists_8 : decode cX5_exists 8 = .ok (.if_icmp .gt 7, 3) := by decide +kernel
theorem dX5_exists_11 : decode cX5_exists 11 = .ok (.iconst 1, 1) := by decide +kernel
theorem dX5_exists_12 : decode cX5_exists 12 = .ok (.goto 4, 3) := by decide +kernel
theorem dX5_exists_15 : decode cX5_exists 15 = .ok (.iconst 0, 1) := by decide +kernel
theorem dX5_exists_16 : decode cX5_exists 16 = .ok (.ireturn, 1) := by decide +kernel
theorem dX5_sent_0 : decode cX5_sent 0 = .ok (.aload_n 0, 1) := by decide +kernel
theorem dX5_sent_1 : decode cX5_sent 1 = .ok (.getfield 7, 3) := by decide +kernel
theorem dX5_sent_4 : decode cX5_sent 4 = .ok (.iload_n 1, 1) := by decide +kernel
theorem dX5_sent_5 : decode cX5_sent 5 = .ok (.sipush 4095, 3) := by decide +kernel
theorem dX5_sent_8 : decode cX5_sent 8 = .ok (.iand, 1) := by decide +kernel
theorem dX5_sent_9 : decode cX5_sent 9 = .ok (.bipush 6, 2) := by decide +kernel
theorem dX5_sent_11 : decode cX5_sent 11 = .ok (.ishr, 1) := by decide +kernel
theorem dX5_sent_12 : decode cX5_sent 12 = .ok (.laload, 1) := by decide +kernel
theorem dX5_sent_13 : decode cX5_sent 13 = .ok (.iload_n 1, 1) := by decide +kernel
theorem dX5_sent_14 : decode cX5_sent 14 = .ok (.bipush 63, 2) := by decide +kernel
theorem dX5_sent_16 : decode cX5_sent 16 = .ok (.iand, 1) := by decide +kernel
theorem dX5_sent_17 : decode cX5_sent 17 = .ok (.lushr, 1) := by decide +kernel
theorem dX5_sent_18 : decode cX5_sent 18 = .ok (.l2i, 1) := by decide +kernel
theorem dX5_sent_19 : decode cX5_sent 19 = .ok (.iconst 1, 1) := by decide +kernel
theorem dX5_sent_20 : decode cX5_sent 20 = .ok (.iand, 1) := by decide +kernel
theorem dX5_sent_21 : decode cX5_sent 21 = .ok (.ireturn, 1) := by decide +kernel
set_option maxRecDepth 20000 in
theorem ggX5_coming_X5_sent : GoodIn wsX5_coming wsX5_sent := goodIn_r _ [8, 9, 10, 11, 12] (by decide +kernel) (by decide +kernel)
set_option maxRecDepth 20000 in
theorem gX5_coming_X5_sent : GoodIn wsX5_coming (wsV RX5 25 RX5 yX5_sent wsX5_sent) := goodIn_app (goodIn_of _ (by decide +kernel)) ggX5_coming_X5_sent
theorem dX5_coming_0 : decode cX5_coming 0 = .ok (.iload_n 1, 1) := by decide +kernel
theorem dX5_coming_1 : decode cX5_coming 1 = .ok (.iconst 2, 1) := by decide +kernel
theorem dX5_coming_2 : decode cX5_coming 2 = .ok (.if_icmp .ne 19, 3) := by decide +kernel
theorem dX5_coming_5 : decode cX5_coming 5 = .ok (.aload_n 0, 1) := by decide +kernel
theorem dX5_coming_6 : decode cX5_coming 6 = .ok (.getfield 13, 3) := by decide +kernel
theorem dX5_coming_9 : decode cX5_coming 9 = .ok (.getfield 19, 3) := by decide +kernel
theorem dX5_coming_12 : decode cX5_coming 12 = .ok (.ifCond .eq 7, 3) := by decide +kernel
theorem dX5_coming_15 : decode cX5_coming 15 = .ok (.iconst 0, 1) := by decide +kernel
theorem dX5_coming_16 : decode cX5_coming 16 = .ok (.goto 4, 3) := by decide +kernel
theorem dX5_coming_19 : decode cX5_coming 19 = .ok (.iconst 1, 1) := by decide +kernel
theorem dX5_coming_20 : decode cX5_coming 20 = .ok (.ireturn, 1) := by decide +kernel
theorem dX5_coming_21 : decode cX5_coming 21 = .ok (.iload_n 1, 1) := by decide +kernel
theorem dX5_coming_22 : decode cX5_coming 22 = .ok (.iconst 3, 1) := by decide +kernel
theorem dX5_coming_23 : decode cX5_coming 23 = .ok (.if_icmp .lt 9, 3) := by decide +kernel
theorem dX5_coming_26 : decode cX5_coming 26 = .ok (.iload_n 1, 1) := by decide +kernel
theorem dX5_coming_27 : decode cX5_coming 27 = .ok (.bipush 10, 2) := by decide +kernel
theorem dX5_coming_29 : decode cX5_coming 29 = .ok (.if_icmp .le 9, 3) := by decide +kernel
theorem dX5_coming_32 : decode cX5_coming 32 = .ok (.aload_n 0, 1) := by decide +kernel
theorem dX5_coming_33 : decode cX5_coming 33 = .ok (.iload_n 1, 1) := by decide +kernel
theorem dX5_coming_34 : decode cX5_coming 34 = .ok (.invokevirtual 25, 3) := by decide +kernel
theorem dX5_coming_37 : decode cX5_coming 37 = .ok (.ireturn, 1) := by decide +kernel
theorem dX5_coming_38 : decode cX5_coming 38 = .ok (.aload_n 0, 1) := by decide +kernel
theorem dX5_coming_39 : decode cX5_coming 39 = .ok (.bipush 18, 2) := by decide +kernel
theorem dX5_coming_41 : decode cX5_coming 41 = .ok (.invokevirtual 25, 3) := by decide +kernel
theorem dX5_coming_44 : decode cX5_coming 44 = .ok (.iconst 2, 1) := by decide +kernel
theorem dX5_coming_45 : decode cX5_coming 45 = .ok (.aload_n 0, 1) := by decide +kernel
theorem dX5_coming_46 : decode cX5_coming 46 = .ok (.bipush 19, 2) := by decide +kernel
theorem dX5_coming_48 : decode cX5_coming 48 = .ok (.invokevirtual 25, 3) := by decide +kernel
theorem dX5_coming_51 : decode cX5_coming 51 = .ok (.imul, 1) := by decide +kernel
theorem dX5_coming_52 : decode cX5_coming 52 = .ok (.iadd, 1) := by decide +kernel
theorem dX5_coming_53 : decode cX5_coming 53 = .ok (.iconst 4, 1) := by decide +kernel
theorem dX5_coming_54 : decode cX5_coming 54 = .ok (.aload_n 0, 1) := by decide +kernel
theorem dX5_coming_55 : decode cX5_coming 55 = .ok (.bipush 20, 2) := by decide +kernel
theorem dX5_coming_57 : decode cX5_coming 57 = .ok (.invokevirtual 25, 3) := by decide +kernel
theorem dX5_coming_60 : decode cX5_coming 60 = .ok (.imul, 1) := by decide +kernel
theorem dX5_coming_61 : decode cX5_coming 61 = .ok (.iadd, 1) := by decide +kernel
theorem dX5_coming_62 : decode cX5_coming 62 = .ok (.istore_n 2, 1) := by decide +kernel
theorem dX5_coming_63 : decode cX5_coming 63 = .ok (.aload_n 0, 1) := by decide +kernel
theorem dX5_coming_64 : decode cX5_coming 64 = .ok (.getfield 29, 3) := by decide +kernel
theorem dX5_coming_67 : decode cX5_coming 67 = .ok (.bipush 8, 2) := by decide +kernel
theorem dX5_coming_69 : decode cX5_coming 69 = .ok (.iload_n 2, 1) := by decide +kernel
theorem dX5_coming_70 : decode cX5_coming 70 = .ok (.imul, 1) := by decide +kernel
theorem dX5_coming_71 : decode cX5_coming 71 = .ok (.iload_n 1, 1) := by decide +kernel
theorem dX5_coming_72 : decode cX5_coming 72 = .ok (.iadd, 1) := by decide +kernel
theorem dX5_coming_73 : decode cX5_coming 73 = .ok (.iconst 3, 1) := by decide +kernel
theorem dX5_coming_74 : decode cX5_coming 74 = .ok (.isub, 1) := by decide +kernel
theorem dX5_coming_75 : decode cX5_coming 75 = .ok (.lushr, 1) := by decide +kernel
theorem dX5_coming_76 : decode cX5_coming 76 = .ok (.lconst 1, 1) := by decide +kernel
theorem dX5_coming_77 : decode cX5_coming 77 = .ok (.land, 1) := by decide +kernel
theorem dX5_coming_78 : decode cX5_coming 78 = .ok (.lconst 1, 1) := by decide +kernel
theorem dX5_coming_79 : decode cX5_coming 79 = .ok (.lcmp, 1) := by decide +kernel
theorem dX5_coming_80 : decode cX5_coming 80 = .ok (.ifCond .ne 7, 3) := by decide +kernel
theorem dX5_coming_83 : decode cX5_coming 83 = .ok (.iconst 0, 1) := by decide +kernel
theorem dX5_coming_84 : decode cX5_coming 84 = .ok (.goto 4, 3) := by decide +kernel
theorem dX5_coming_87 : decode cX5_coming 87 = .ok (.iconst 1, 1) := by decide +kernel
theorem dX5_coming_88 : decode cX5_coming 88 = .ok (.ireturn, 1) := by decide +kernel
theorem dX5_press_0 : decode cX5_press 0 = .ok (.lconst 1, 1) := by decide +kernel
theorem dX5_press_1 : decode cX5_press 1 = .ok (.bipush 8, 2) := by decide +kernel
theorem dX5_press_3 : decode cX5_press 3 = .ok (.iload_n 1, 1) := by decide +kernel
theorem dX5_press_4 : decode cX5_press 4 = .ok (.imul, 1) := by decide +kernel
theorem dX5_press_5 : decode cX5_press 5 = .ok (.iload_n 2, 1) := by decide +kernel
theorem dX5_press_6 : decode cX5_press 6 = .ok (.iadd, 1) := by decide +kernel
theorem dX5_press_7 : decode cX5_press 7 = .ok (.lshl, 1) := by decide +kernel
theorem dX5_press_8 : decode cX5_press 8 = .ok (.lstore 4, 2) := by decide +kernel
theorem dX5_press_10 : decode cX5_press 10 = .ok (.aload_n 0, 1) := by decide +kernel
theorem dX5_press_11 : decode cX5_press 11 = .ok (.iload_n 3, 1) := by decide +kernel
theorem dX5_press_12 : decode cX5_press 12 = .ok (.ifCond .eq 13, 3) := by decide +kernel
theorem dX5_press_15 : decode cX5_press 15 = .ok (.aload_n 0, 1) := by decide +kernel
theorem dX5_press_16 : decode cX5_press 16 = .ok (.getfield 29, 3) := by decide +kernel
theorem dX5_press_19 : decode cX5_press 19 = .ok (.lload 4, 2) := by decide +kernel
theorem dX5_press_21 : decode cX5_press 21 = .ok (.lor, 1) := by decide +kernel
theorem dX5_press_22 : decode cX5_press 22 = .ok (.goto 14, 3) := by decide +kernel
theorem dX5_press_25 : decode cX5_press 25 = .ok (.aload_n 0, 1) := by decide +kernel
theorem dX5_press_26 : decode cX5_press 26 = .ok (.getfield 29, 3) := by decide +kernel
theorem dX5_press_29 : decode cX5_press 29 = .ok (.lload 4, 2) := by decide +kernel
theorem dX5_press_31 : decode cX5_press 31 = .ok (.ldc2_w 17, 3) := by decide +kernel
theorem dX5_press_34 : decode cX5_press 34 = .ok (.lxor, 1) := by decide +kernel
theorem dX5_press_35 : decode cX5_press 35 = .ok (.land, 1) := by decide +kernel
theorem dX5_press_36 : decode cX5_press 36 = .ok (.putfield 29, 3) := by decide +kernel
theorem dX5_press_39 : decode cX5_press 39 = .ok (.return_, 1) := by decide +kernel
set_option maxRecDepth 20000 in
theorem ggX6_init_X0_init : GoodIn wsX6_init wsX0_init := goodIn_r _ [30, 31, 2, 3, 32, 33, 75] (by decide +kernel) (by decide +kernel)
set_option maxRecDepth 20000 in
theorem gX6_init_X0_init : GoodIn wsX6_init (wsX0_init) := ggX6_init_X0_init
set_option maxRecDepth 20000 in
theorem ggX6_init_X3_init : GoodIn wsX6_init wsX3_init := goodIn_r _ [35, 36, 2, 3, 37, 5, 6, 38, 39, 40, 41, 42, 29, 30, 31, 32, 33, 75, 83, 84, 85, 86, 87, 88] (by decide +kernel) (by decide +kernel)
set_option maxRecDepth 20000 in
theorem gX6_init_X3_init_n20 : GoodIn wsX6_init (wsX3_init) := ggX6_init_X3_init
set_option maxRecDepth 20000 in
theorem ggX6_init_X1_init : GoodIn wsX6_init wsX1_init := goodIn_r _ [44, 45, 2, 3, 46, 5, 6, 47, 48, 29, 30, 31, 32, 33, 75, 89, 90, 91, 92] (by decide +kernel) (by decide +kernel)
set_option maxRecDepth 20000 in
theorem gX6_init_X1_init_n27 : GoodIn wsX6_init (wsX1_init) := ggX6_init_X1_init
set_option maxRecDepth 20000 in
theorem ggX6_init_X5_init : GoodIn wsX6_init wsX5_init := goodIn_r _ [51, 52, 2, 3, 32, 53, 54, 93, 94, 95] (by decide +kernel) (by decide +kernel)
set_option maxRecDepth 20000 in
theorem gX6_init_X5_init : GoodIn wsX6_init (wsX5_init) := ggX6_init_X5_init
set_option maxRecDepth 20000 in
theorem ggX6_init_X2_init : GoodIn wsX6_init wsX2_init := goodIn_r _ [57, 58, 2, 3, 59, 5, 6, 60, 61, 62, 63, 64, 65, 66, 29, 30, 31, 32, 33, 75, 96, 97, 98, 99, 100] (by decide +kernel) (by decide +kernel)
set_option maxRecDepth 20000 in
theorem gX6_init_X2_init : GoodIn wsX6_init (wsX2_init) := ggX6_init_X2_init
set_option maxRecDepth 20000 in
theorem ggX6_init_X4_init : GoodIn wsX6_init wsX4_init := goodIn_r _ [69, 70, 2, 3, 71, 72, 73, 74, 101, 102, 103, 104, 105, 106, 107, 108, 109, 110, 111, 112] (by decide +kernel) (by decide +kernel)
set_option maxRecDepth 20000 in
theorem gX6_init_X4_init : GoodIn wsX6_init (wsX4_init) := ggX6_init_X4_init
theorem dX6_init_0 : decode cX6_init 0 = .ok (.aload_n 0, 1) := by decide +kernel
theorem dX6_init_1 : decode cX6_init 1 = .ok (.invokespecial 1, 3) := by decide +kernel
theorem dX6_init_4 : decode cX6_init 4 = .ok (.aload_n 0, 1) := by decide +kernel
theorem dX6_init_5 : decode cX6_init 5 = .ok (.new 7, 3) := by decide +kernel
theorem dX6_init_8 : decode cX6_init 8 = .ok (.dup, 1) := by decide +kernel
theorem dX6_init_9 : decode cX6_init 9 = .ok (.sipush 1000, 3) := by decide +kernel
theorem dX6_init_12 : decode cX6_init 12 = .ok (.invokespecial 11, 3) := by decide +kernel
theorem dX6_init_15 : decode cX6_init 15 = .ok (.putfield 14, 3) := by decide +kernel
theorem dX6_init_18 : decode cX6_init 18 = .ok (.aload_n 0, 1) := by decide +kernel
theorem dX6_init_19 : decode cX6_init 19 = .ok (.new 18, 3) := by decide +kernel
theorem dX6_init_22 : decode cX6_init 22 = .ok (.dup, 1) := by decide +kernel
theorem dX6_init_23 : decode cX6_init 23 = .ok (.invokespecial 20, 3) := by decide +kernel
theorem dX6_init_26 : decode cX6_init 26 = .ok (.putfield 21, 3) := by decide +kernel
theorem dX6_init_29 : decode cX6_init 29 = .ok (.aload_n 0, 1) := by decide +kernel
theorem dX6_init_30 : decode cX6_init 30 = .ok (.new 25, 3) := by decide +kernel
theorem dX6_init_33 : decode cX6_init 33 = .ok (.dup, 1) := by decide +kernel
theorem dX6_init_34 : decode cX6_init 34 = .ok (.invokespecial 27, 3) := by decide +kernel
theorem dX6_init_37 : decode cX6_init 37 = .ok (.putfield 28, 3) := by decide +kernel
theorem dX6_init_40 : decode cX6_init 40 = .ok (.aload_n 0, 1) := by decide +kernel
theorem dX6_init_41 : decode cX6_init 41 = .ok (.new 32, 3) := by decide +kernel
theorem dX6_init_44 : decode cX6_init 44 = .ok (.dup, 1) := by decide +kernel
theorem dX6_init_45 : decode cX6_init 45 = .ok (.aload_n 0, 1) := by decide +kernel
theorem dX6_init_46 : decode cX6_init 46 = .ok (.getfield 21, 3) := by decide +kernel
theorem dX6_init_49 : decode cX6_init 49 = .ok (.invokespecial 34, 3) := by decide +kernel
theorem dX6_init_52 : decode cX6_init 52 = .ok (.putfield 37, 3) := by decide +kernel
theorem dX6_init_55 : decode cX6_init 55 = .ok (.aload_n 0, 1) := by decide +kernel
theorem dX6_init_56 : decode cX6_init 56 = .ok (.new 41, 3) := by decide +kernel
theorem dX6_init_59 : decode cX6_init 59 = .ok (.dup, 1) := by decide +kernel
theorem dX6_init_60 : decode cX6_init 60 = .ok (.aload_n 0, 1) := by decide +kernel
theorem dX6_init_61 : decode cX6_init 61 = .ok (.getfield 21, 3) := by decide +kernel
theorem dX6_init_64 : decode cX6_init 64 = .ok (.aload_n 0, 1) := by decide +kernel
theorem dX6_init_65 : decode cX6_init 65 = .ok (.getfield 28, 3) := by decide +kernel
theorem dX6_init_68 : decode cX6_init 68 = .ok (.invokespecial 43, 3) := by decide +kernel
theorem dX6_init_71 : decode cX6_init 71 = .ok (.putfield 46, 3) := by decide +kernel
theorem dX6_init_74 : decode cX6_init 74 = .ok (.aload_n 0, 1) := by decide +kernel
theorem dX6_init_75 : decode cX6_init 75 = .ok (.new 50, 3) := by decide +kernel
theorem dX6_init_78 : decode cX6_init 78 = .ok (.dup, 1) := by decide +kernel
theorem dX6_init_79 : decode cX6_init 79 = .ok (.aload_n 0, 1) := by decide +kernel
theorem dX6_init_80 : decode cX6_init 80 = .ok (.getfield 46, 3) := by decide +kernel
theorem dX6_init_83 : decode cX6_init 83 = .ok (.aload_n 0, 1) := by decide +kernel
theorem dX6_init_84 : decode cX6_init 84 = .ok (.getfield 21, 3) := by decide +kernel
theorem dX6_init_87 : decode cX6_init 87 = .ok (.aload_n 0, 1) := by decide +kernel
theorem dX6_init_88 : decode cX6_init 88 = .ok (.getfield 37, 3) := by decide +kernel
theorem dX6_init_91 : decode cX6_init 91 = .ok (.invokespecial 52, 3) := by decide +kernel
theorem dX6_init_94 : decode cX6_init 94 = .ok (.putfield 55, 3) := by decide +kernel
theorem dX6_init_97 : decode cX6_init 97 = .ok (.return_, 1) := by decide +kernel
set_option maxRecDepth 20000 in
theorem ggX6_feed_X6_append : GoodIn wsX6_feed wsX6_append := goodIn_r _ [6, 7, 1, 8, 9, 10, 11, 12, 13, 14, 15, 16, 17, 18, 19, 20, 21, 22, 23] (by decide +kernel) (by decide +kernel)
set_option maxRecDepth 20000 in
theorem gX6_feed_X6_append : GoodIn wsX6_feed (wsV RX6 63 RX6 yX6_append wsX6_append) := goodIn_app (goodIn_of _ (by decide +kernel)) ggX6_feed_X6_append
theorem dX6_feed_0 : decode cX6_feed 0 = .ok (.aload_n 0, 1) := by decide +kernel
theorem dX6_feed_1 : decode cX6_feed 1 = .ok (.getfield 59, 3) := by decide +kernel
theorem dX6_feed_4 : decode cX6_feed 4 = .ok (.sipush 980, 3) := by decide +kernel
theorem dX6_feed_7 : decode cX6_feed 7 = .ok (.if_icmp .le 5, 3) := by decide +kernel
theorem dX6_feed_10 : decode cX6_feed 10 = .ok (.iconst (-1), 1) := by decide +kernel
theorem dX6_feed_11 : decode cX6_feed 11 = .ok (.ireturn, 1) := by decide +kernel
theorem dX6_feed_12 : decode cX6_feed 12 = .ok (.aload_n 0, 1) := by decide +kernel
theorem dX6_feed_13 : decode cX6_feed 13 = .ok (.iload_n 1, 1) := by decide +kernel
theorem dX6_feed_14 : decode cX6_feed 14 = .ok (.invokevirtual 63, 3) := by decide +kernel
theorem dX6_feed_17 : decode cX6_feed 17 = .ok (.aload_n 0, 1) := by decide +kernel
theorem dX6_feed_18 : decode cX6_feed 18 = .ok (.iload_n 2, 1) := by decide +kernel
theorem dX6_feed_19 : decode cX6_feed 19 = .ok (.invokevirtual 63, 3) := by decide +kernel
theorem dX6_feed_22 : decode cX6_feed 22 = .ok (.aload_n 0, 1) := by decide +kernel
theorem dX6_feed_23 : decode cX6_feed 23 = .ok (.iload_n 3, 1) := by decide +kernel
theorem dX6_feed_24 : decode cX6_feed 24 = .ok (.invokevirtual 63, 3) := by decide +kernel
theorem dX6_feed_27 : decode cX6_feed 27 = .ok (.aload_n 0, 1) := by decide +kernel
theorem dX6_feed_28 : decode cX6_feed 28 = .ok (.iload 4, 2) := by decide +kernel
theorem dX6_feed_30 : decode cX6_feed 30 = .ok (.invokevirtual 63, 3) := by decide +kernel
theorem dX6_feed_33 : decode cX6_feed 33 = .ok (.aload_n 0, 1) := by decide +kernel
theorem dX6_feed_34 : decode cX6_feed 34 = .ok (.iload 5, 2) := by decide +kernel
theorem dX6_feed_36 : decode cX6_feed 36 = .ok (.invokevirtual 63, 3) := by decide +kernel
theorem dX6_feed_39 : decode cX6_feed 39 = .ok (.aload_n 0, 1) := by decide +kernel
theorem dX6_feed_40 : decode cX6_feed 40 = .ok (.getfield 59, 3) := by decide +kernel
theorem dX6_feed_43 : decode cX6_feed 43 = .ok (.ireturn, 1) := by decide +kernel
set_option maxRecDepth 20000 in
theorem ggX6_append_X0_put : GoodIn wsX6_append wsX0_put := goodIn_r _ [7, 8, 9, 10, 18] (by decide +kernel) (by decide +kernel)
set_option maxRecDepth 20000 in
theorem gX6_append_X0_put : GoodIn wsX6_append (wsV RX6 66 RX0 yX0_put wsX0_put) := goodIn_app (goodIn_of _ (by decide +kernel)) ggX6_append_X0_put
theorem dX6_append_0 : decode cX6_append 0 = .ok (.bipush 24, 2) := by decide +kernel
theorem dX6_append_2 : decode cX6_append 2 = .ok (.istore_n 2, 1) := by decide +kernel
theorem dX6_append_3 : decode cX6_append 3 = .ok (.iload_n 2, 1) := by decide +kernel
theorem dX6_append_4 : decode cX6_append 4 = .ok (.ifCond .lt 33, 3) := by decide +kernel
theorem dX6_append_7 : decode cX6_append 7 = .ok (.aload_n 0, 1) := by decide +kernel
theorem dX6_append_8 : decode cX6_append 8 = .ok (.getfield 14, 3) := by decide +kernel
theorem dX6_append_11 : decode cX6_append 11 = .ok (.aload_n 0, 1) := by decide +kernel
theorem dX6_append_12 : decode cX6_append 12 = .ok (.getfield 59, 3) := by decide +kernel
theorem dX6_append_15 : decode cX6_append 15 = .ok (.iload_n 1, 1) := by decide +kernel
theorem dX6_append_16 : decode cX6_append 16 = .ok (.iload_n 2, 1) := by decide +kernel
theorem dX6_append_17 : decode cX6_append 17 = .ok (.ishr, 1) := by decide +kernel
theorem dX6_append_18 : decode cX6_append 18 = .ok (.invokevirtual 66, 3) := by decide +kernel
theorem dX6_append_21 : decode cX6_append 21 = .ok (.aload_n 0, 1) := by decide +kernel
theorem dX6_append_22 : decode cX6_append 22 = .ok (.dup, 1) := by decide +kernel
theorem dX6_append_23 : decode cX6_append 23 = .ok (.getfield 59, 3) := by decide +kernel
theorem dX6_append_26 : decode cX6_append 26 = .ok (.iconst 1, 1) := by decide +kernel
theorem dX6_append_27 : decode cX6_append 27 = .ok (.iadd, 1) := by decide +kernel
theorem dX6_append_28 : decode cX6_append 28 = .ok (.putfield 59, 3) := by decide +kernel
theorem dX6_append_31 : decode cX6_append 31 = .ok (.iinc 2 (-8), 3) := by decide +kernel
theorem dX6_append_34 : decode cX6_append 34 = .ok (.goto (-31), 3) := by decide +kernel
theorem dX6_append_37 : decode cX6_append 37 = .ok (.return_, 1) := by decide +kernel
theorem dX6_end_0 : decode cX6_end 0 = .ok (.iload_n 1, 1) := by decide +kernel
theorem dX6_end_1 : decode cX6_end 1 = .ok (.ifCond .lt 11, 3) := by decide +kernel
theorem dX6_end_4 : decode cX6_end 4 = .ok (.iload_n 1, 1) := by decide +kernel
theorem dX6_end_5 : decode cX6_end 5 = .ok (.aload_n 0, 1) := by decide +kernel
theorem dX6_end_6 : decode cX6_end 6 = .ok (.getfield 59, 3) := by decide +kernel
theorem dX6_end_9 : decode cX6_end 9 = .ok (.if_icmp .le 5, 3) := by decide +kernel
theorem dX6_end_12 : decode cX6_end 12 = .ok (.iconst (-1), 1) := by decide +kernel
theorem dX6_end_13 : decode cX6_end 13 = .ok (.ireturn, 1) := by decide +kernel
theorem dX6_end_14 : decode cX6_end 14 = .ok (.aload_n 0, 1) := by decide +kernel
theorem dX6_end_15 : decode cX6_end 15 = .ok (.iload_n 1, 1) := by decide +kernel
theorem dX6_end_16 : decode cX6_end 16 = .ok (.putfield 59, 3) := by decide +kernel
theorem dX6_end_19 : decode cX6_end 19 = .ok (.iload_n 1, 1) := by decide +kernel
theorem dX6_end_20 : decode cX6_end 20 = .ok (.ireturn, 1) := by decide +kernel
set_option maxRecDepth 20000 in
theorem ggX6_load_X6_sizeOfArea : GoodIn wsX6_load wsX6_sizeOfArea := goodIn_r _ [6, 7] (by decide +kernel) (by decide +kernel)
