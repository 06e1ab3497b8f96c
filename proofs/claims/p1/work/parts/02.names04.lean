set_option maxRecDepth 20000 in
theorem gX6_load_X6_sizeOfArea : GoodIn wsX6_load (va_wsS RX6 70 yX6_sizeOfArea wsX6_sizeOfArea) := goodIn_app (goodIn_of _ (by decide +kernel)) ggX6_load_X6_sizeOfArea
set_option maxRecDepth 20000 in
theorem ggX6_load_X0_get : GoodIn wsX6_load wsX0_get := goodIn_r _ [12, 13, 84] (by decide +kernel) (by decide +kernel)
set_option maxRecDepth 20000 in
theorem gX6_load_X0_get : GoodIn wsX6_load (wsV RX6 74 RX0 yX0_get wsX0_get) := goodIn_app (goodIn_of _ (by decide +kernel)) ggX6_load_X0_get
theorem dX6_load_0 : decode cX6_load 0 = .ok (.iload_n 1, 1) := by decide +kernel
theorem dX6_load_1 : decode cX6_load 1 = .ok (.invokestatic 70, 3) := by decide +kernel
theorem dX6_load_4 : decode cX6_load 4 = .ok (.istore_n 3, 1) := by decide +kernel
theorem dX6_load_5 : decode cX6_load 5 = .ok (.iload_n 3, 1) := by decide +kernel
theorem dX6_load_6 : decode cX6_load 6 = .ok (.iconst (-1), 1) := by decide +kernel
theorem dX6_load_7 : decode cX6_load 7 = .ok (.if_icmp .eq 17, 3) := by decide +kernel
theorem dX6_load_10 : decode cX6_load 10 = .ok (.iload_n 2, 1) := by decide +kernel
theorem dX6_load_11 : decode cX6_load 11 = .ok (.ifCond .lt 13, 3) := by decide +kernel
theorem dX6_load_14 : decode cX6_load 14 = .ok (.iload_n 2, 1) := by decide +kernel
theorem dX6_load_15 : decode cX6_load 15 = .ok (.iload_n 3, 1) := by decide +kernel
theorem dX6_load_16 : decode cX6_load 16 = .ok (.aload_n 0, 1) := by decide +kernel
theorem dX6_load_17 : decode cX6_load 17 = .ok (.getfield 59, 3) := by decide +kernel
theorem dX6_load_20 : decode cX6_load 20 = .ok (.isub, 1) := by decide +kernel
theorem dX6_load_21 : decode cX6_load 21 = .ok (.if_icmp .le 5, 3) := by decide +kernel
theorem dX6_load_24 : decode cX6_load 24 = .ok (.iconst (-1), 1) := by decide +kernel
theorem dX6_load_25 : decode cX6_load 25 = .ok (.ireturn, 1) := by decide +kernel
theorem dX6_load_26 : decode cX6_load 26 = .ok (.aload_n 0, 1) := by decide +kernel
theorem dX6_load_27 : decode cX6_load 27 = .ok (.getfield 59, 3) := by decide +kernel
theorem dX6_load_30 : decode cX6_load 30 = .ok (.istore 4, 2) := by decide +kernel
theorem dX6_load_32 : decode cX6_load 32 = .ok (.iconst 0, 1) := by decide +kernel
theorem dX6_load_33 : decode cX6_load 33 = .ok (.istore 5, 2) := by decide +kernel
theorem dX6_load_35 : decode cX6_load 35 = .ok (.iload 5, 2) := by decide +kernel
theorem dX6_load_37 : decode cX6_load 37 = .ok (.iload 4, 2) := by decide +kernel
theorem dX6_load_39 : decode cX6_load 39 = .ok (.if_icmp .ge 27, 3) := by decide +kernel
theorem dX6_load_42 : decode cX6_load 42 = .ok (.aload_n 0, 1) := by decide +kernel
theorem dX6_load_43 : decode cX6_load 43 = .ok (.iload_n 1, 1) := by decide +kernel
theorem dX6_load_44 : decode cX6_load 44 = .ok (.iload_n 2, 1) := by decide +kernel
theorem dX6_load_45 : decode cX6_load 45 = .ok (.iload 5, 2) := by decide +kernel
theorem dX6_load_47 : decode cX6_load 47 = .ok (.iadd, 1) := by decide +kernel
theorem dX6_load_48 : decode cX6_load 48 = .ok (.aload_n 0, 1) := by decide +kernel
theorem dX6_load_49 : decode cX6_load 49 = .ok (.getfield 14, 3) := by decide +kernel
theorem dX6_load_52 : decode cX6_load 52 = .ok (.iload 5, 2) := by decide +kernel
theorem dX6_load_54 : decode cX6_load 54 = .ok (.invokevirtual 74, 3) := by decide +kernel
theorem dX6_load_57 : decode cX6_load 57 = .ok (.invokevirtual 77, 3) := by decide +kernel
theorem dX6_load_60 : decode cX6_load 60 = .ok (.iinc 5 1, 3) := by decide +kernel
theorem dX6_load_63 : decode cX6_load 63 = .ok (.goto (-28), 3) := by decide +kernel
theorem dX6_load_66 : decode cX6_load 66 = .ok (.aload_n 0, 1) := by decide +kernel
theorem dX6_load_67 : decode cX6_load 67 = .ok (.iconst 0, 1) := by decide +kernel
theorem dX6_load_68 : decode cX6_load 68 = .ok (.putfield 59, 3) := by decide +kernel
theorem dX6_load_71 : decode cX6_load 71 = .ok (.iload 4, 2) := by decide +kernel
theorem dX6_load_73 : decode cX6_load 73 = .ok (.ireturn, 1) := by decide +kernel
theorem dX6_sizeOfArea_0 : decode cX6_sizeOfArea 0 = .ok (.iload_n 0, 1) := by decide +kernel
theorem dX6_sizeOfArea_1 : decode cX6_sizeOfArea 1 = .ok (.tableswitch 46 0 3 #[31, 35, 38, 42], 31) := by decide +kernel
theorem dX6_sizeOfArea_32 : decode cX6_sizeOfArea 32 = .ok (.sipush 8192, 3) := by decide +kernel
theorem dX6_sizeOfArea_35 : decode cX6_sizeOfArea 35 = .ok (.ireturn, 1) := by decide +kernel
theorem dX6_sizeOfArea_36 : decode cX6_sizeOfArea 36 = .ok (.ldc 81, 2) := by decide +kernel
theorem dX6_sizeOfArea_38 : decode cX6_sizeOfArea 38 = .ok (.ireturn, 1) := by decide +kernel
theorem dX6_sizeOfArea_39 : decode cX6_sizeOfArea 39 = .ok (.sipush 16384, 3) := by decide +kernel
theorem dX6_sizeOfArea_42 : decode cX6_sizeOfArea 42 = .ok (.ireturn, 1) := by decide +kernel
theorem dX6_sizeOfArea_43 : decode cX6_sizeOfArea 43 = .ok (.sipush 8192, 3) := by decide +kernel
theorem dX6_sizeOfArea_46 : decode cX6_sizeOfArea 46 = .ok (.ireturn, 1) := by decide +kernel
theorem dX6_sizeOfArea_47 : decode cX6_sizeOfArea 47 = .ok (.iconst (-1), 1) := by decide +kernel
theorem dX6_sizeOfArea_48 : decode cX6_sizeOfArea 48 = .ok (.ireturn, 1) := by decide +kernel
theorem dX6_putInArea_0 : decode cX6_putInArea 0 = .ok (.iload_n 1, 1) := by decide +kernel
theorem dX6_putInArea_1 : decode cX6_putInArea 1 = .ok (.tableswitch 69 0 2 #[27, 42, 54], 27) := by decide +kernel
theorem dX6_putInArea_28 : decode cX6_putInArea 28 = .ok (.aload_n 0, 1) := by decide +kernel
theorem dX6_putInArea_29 : decode cX6_putInArea 29 = .ok (.getfield 46, 3) := by decide +kernel
theorem dX6_putInArea_32 : decode cX6_putInArea 32 = .ok (.getfield 82, 3) := by decide +kernel
theorem dX6_putInArea_35 : decode cX6_putInArea 35 = .ok (.iload_n 2, 1) := by decide +kernel
theorem dX6_putInArea_36 : decode cX6_putInArea 36 = .ok (.iload_n 3, 1) := by decide +kernel
theorem dX6_putInArea_37 : decode cX6_putInArea 37 = .ok (.invokevirtual 66, 3) := by decide +kernel
theorem dX6_putInArea_40 : decode cX6_putInArea 40 = .ok (.goto 42, 3) := by decide +kernel
theorem dX6_putInArea_43 : decode cX6_putInArea 43 = .ok (.aload_n 0, 1) := by decide +kernel
theorem dX6_putInArea_44 : decode cX6_putInArea 44 = .ok (.getfield 46, 3) := by decide +kernel
theorem dX6_putInArea_47 : decode cX6_putInArea 47 = .ok (.iload_n 2, 1) := by decide +kernel
theorem dX6_putInArea_48 : decode cX6_putInArea 48 = .ok (.iload_n 3, 1) := by decide +kernel
theorem dX6_putInArea_49 : decode cX6_putInArea 49 = .ok (.invokevirtual 85, 3) := by decide +kernel
theorem dX6_putInArea_52 : decode cX6_putInArea 52 = .ok (.goto 30, 3) := by decide +kernel
theorem dX6_putInArea_55 : decode cX6_putInArea 55 = .ok (.aload_n 0, 1) := by decide +kernel
theorem dX6_putInArea_56 : decode cX6_putInArea 56 = .ok (.getfield 21, 3) := by decide +kernel
theorem dX6_putInArea_59 : decode cX6_putInArea 59 = .ok (.getfield 88, 3) := by decide +kernel
theorem dX6_putInArea_62 : decode cX6_putInArea 62 = .ok (.iload_n 2, 1) := by decide +kernel
theorem dX6_putInArea_63 : decode cX6_putInArea 63 = .ok (.iload_n 3, 1) := by decide +kernel
theorem dX6_putInArea_64 : decode cX6_putInArea 64 = .ok (.invokevirtual 66, 3) := by decide +kernel
theorem dX6_putInArea_67 : decode cX6_putInArea 67 = .ok (.goto 15, 3) := by decide +kernel
theorem dX6_putInArea_70 : decode cX6_putInArea 70 = .ok (.aload_n 0, 1) := by decide +kernel
theorem dX6_putInArea_71 : decode cX6_putInArea 71 = .ok (.getfield 28, 3) := by decide +kernel
theorem dX6_putInArea_74 : decode cX6_putInArea 74 = .ok (.getfield 91, 3) := by decide +kernel
theorem dX6_putInArea_77 : decode cX6_putInArea 77 = .ok (.iload_n 2, 1) := by decide +kernel
theorem dX6_putInArea_78 : decode cX6_putInArea 78 = .ok (.iload_n 3, 1) := by decide +kernel
theorem dX6_putInArea_79 : decode cX6_putInArea 79 = .ok (.invokevirtual 66, 3) := by decide +kernel
theorem dX6_putInArea_82 : decode cX6_putInArea 82 = .ok (.return_, 1) := by decide +kernel
set_option maxRecDepth 20000 in
theorem ggX6_reset_X4_restart : GoodIn wsX6_reset wsX4_restart := goodIn_r _ [6, 7, 8, 9, 10, 11, 12, 13, 14, 15, 16, 17, 18, 19, 20, 21, 22, 23, 24, 25, 26, 27, 28, 29, 30, 31, 32, 33, 34, 35, 36, 37, 38, 39, 40, 41, 42, 43, 44, 45, 46, 47, 48, 49, 50, 51, 52, 53, 54, 55, 56, 57, 58, 59, 60, 61, 62, 63, 64, 65, 66, 67, 68, 69, 70, 71, 72, 73, 81, 82, 83, 84, 85, 86, 87, 88, 89, 90, 91, 92, 93, 94, 95, 96, 97, 98, 99, 100, 101, 102, 103, 104, 105, 106, 107, 108] (by decide +kernel) (by decide +kernel)
set_option maxRecDepth 20000 in
theorem gX6_reset_X4_restart : GoodIn wsX6_reset (wsV RX6 92 RX4 yX4_restart wsX4_restart) := goodIn_app (goodIn_of _ (by decide +kernel)) ggX6_reset_X4_restart
theorem dX6_reset_0 : decode cX6_reset 0 = .ok (.aload_n 0, 1) := by decide +kernel
theorem dX6_reset_1 : decode cX6_reset 1 = .ok (.getfield 55, 3) := by decide +kernel
theorem dX6_reset_4 : decode cX6_reset 4 = .ok (.invokevirtual 92, 3) := by decide +kernel
theorem dX6_reset_7 : decode cX6_reset 7 = .ok (.return_, 1) := by decide +kernel
theorem dX6_run_0 : decode cX6_run 0 = .ok (.iload_n 1, 1) := by decide +kernel
theorem dX6_run_1 : decode cX6_run 1 = .ok (.ifCond .lt 10, 3) := by decide +kernel
theorem dX6_run_4 : decode cX6_run 4 = .ok (.iload_n 1, 1) := by decide +kernel
theorem dX6_run_5 : decode cX6_run 5 = .ok (.sipush 2000, 3) := by decide +kernel
theorem dX6_run_8 : decode cX6_run 8 = .ok (.if_icmp .le 13, 3) := by decide +kernel
theorem dX6_run_11 : decode cX6_run 11 = .ok (.new 95, 3) := by decide +kernel
theorem dX6_run_14 : decode cX6_run 14 = .ok (.dup, 1) := by decide +kernel
theorem dX6_run_15 : decode cX6_run 15 = .ok (.ldc 97, 2) := by decide +kernel
theorem dX6_run_17 : decode cX6_run 17 = .ok (.invokespecial 99, 3) := by decide +kernel
theorem dX6_run_20 : decode cX6_run 20 = .ok (.athrow, 1) := by decide +kernel
theorem dX6_run_21 : decode cX6_run 21 = .ok (.iconst 0, 1) := by decide +kernel
theorem dX6_run_22 : decode cX6_run 22 = .ok (.istore_n 2, 1) := by decide +kernel
theorem dX6_run_23 : decode cX6_run 23 = .ok (.iload_n 2, 1) := by decide +kernel
theorem dX6_run_24 : decode cX6_run 24 = .ok (.iload_n 1, 1) := by decide +kernel
theorem dX6_run_25 : decode cX6_run 25 = .ok (.if_icmp .ge 28, 3) := by decide +kernel
theorem dX6_run_28 : decode cX6_run 28 = .ok (.aload_n 0, 1) := by decide +kernel
theorem dX6_run_29 : decode cX6_run 29 = .ok (.getfield 55, 3) := by decide +kernel
theorem dX6_run_32 : decode cX6_run 32 = .ok (.invokevirtual 102, 3) := by decide +kernel
theorem dX6_run_35 : decode cX6_run 35 = .ok (.ifCond .ne 5, 3) := by decide +kernel
theorem dX6_run_38 : decode cX6_run 38 = .ok (.iload_n 2, 1) := by decide +kernel
theorem dX6_run_39 : decode cX6_run 39 = .ok (.ireturn, 1) := by decide +kernel
theorem dX6_run_40 : decode cX6_run 40 = .ok (.aload_n 0, 1) := by decide +kernel
theorem dX6_run_41 : decode cX6_run 41 = .ok (.getfield 55, 3) := by decide +kernel
theorem dX6_run_44 : decode cX6_run 44 = .ok (.invokevirtual 106, 3) := by decide +kernel
theorem dX6_run_47 : decode cX6_run 47 = .ok (.iinc 2 1, 3) := by decide +kernel
theorem dX6_run_50 : decode cX6_run 50 = .ok (.goto (-27), 3) := by decide +kernel
theorem dX6_run_53 : decode cX6_run 53 = .ok (.iload_n 1, 1) := by decide +kernel
theorem dX6_run_54 : decode cX6_run 54 = .ok (.ireturn, 1) := by decide +kernel
set_option maxRecDepth 20000 in
theorem ggX6_state_X2_wordAt : GoodIn wsX6_state wsX2_wordAt := goodIn_r _ [13, 14, 15, 16, 17, 12, 18, 19, 20, 21, 22, 23, 24, 25, 26, 27, 28, 29, 30, 31, 32, 33, 34, 35, 36, 37, 38, 39, 40, 41, 42, 43, 44, 45, 46, 47, 48, 49, 50, 51, 52, 53, 54, 55, 56, 57, 58, 59, 60, 61, 62, 63, 64, 65, 66, 67, 68, 88, 89, 90, 91, 92, 93, 94, 95, 96, 97, 98, 99, 100, 101, 102, 103] (by decide +kernel) (by decide +kernel)
set_option maxRecDepth 20000 in
theorem gX6_state_X2_wordAt : GoodIn wsX6_state (wsV RX6 127 RX2 yX2_wordAt wsX2_wordAt) := goodIn_app (goodIn_of _ (by decide +kernel)) ggX6_state_X2_wordAt
theorem dX6_state_0 : decode cX6_state 0 = .ok (.iload_n 1, 1) := by decide +kernel
theorem dX6_state_1 : decode cX6_state 1 = .ok (.tableswitch 87 0 5 #[39, 47, 55, 63, 71, 79], 39) := by decide +kernel
theorem dX6_state_40 : decode cX6_state 40 = .ok (.aload_n 0, 1) := by decide +kernel
theorem dX6_state_41 : decode cX6_state 41 = .ok (.getfield 55, 3) := by decide +kernel
theorem dX6_state_44 : decode cX6_state 44 = .ok (.getfield 109, 3) := by decide +kernel
theorem dX6_state_47 : decode cX6_state 47 = .ok (.ireturn, 1) := by decide +kernel
theorem dX6_state_48 : decode cX6_state 48 = .ok (.aload_n 0, 1) := by decide +kernel
theorem dX6_state_49 : decode cX6_state 49 = .ok (.getfield 55, 3) := by decide +kernel
theorem dX6_state_52 : decode cX6_state 52 = .ok (.getfield 112, 3) := by decide +kernel
theorem dX6_state_55 : decode cX6_state 55 = .ok (.ireturn, 1) := by decide +kernel
theorem dX6_state_56 : decode cX6_state 56 = .ok (.aload_n 0, 1) := by decide +kernel
theorem dX6_state_57 : decode cX6_state 57 = .ok (.getfield 55, 3) := by decide +kernel
theorem dX6_state_60 : decode cX6_state 60 = .ok (.getfield 115, 3) := by decide +kernel
theorem dX6_state_63 : decode cX6_state 63 = .ok (.ireturn, 1) := by decide +kernel
theorem dX6_state_64 : decode cX6_state 64 = .ok (.aload_n 0, 1) := by decide +kernel
theorem dX6_state_65 : decode cX6_state 65 = .ok (.getfield 55, 3) := by decide +kernel
theorem dX6_state_68 : decode cX6_state 68 = .ok (.getfield 118, 3) := by decide +kernel
theorem dX6_state_71 : decode cX6_state 71 = .ok (.ireturn, 1) := by decide +kernel
theorem dX6_state_72 : decode cX6_state 72 = .ok (.aload_n 0, 1) := by decide +kernel
theorem dX6_state_73 : decode cX6_state 73 = .ok (.getfield 55, 3) := by decide +kernel
theorem dX6_state_76 : decode cX6_state 76 = .ok (.getfield 121, 3) := by decide +kernel
theorem dX6_state_79 : decode cX6_state 79 = .ok (.ireturn, 1) := by decide +kernel
theorem dX6_state_80 : decode cX6_state 80 = .ok (.aload_n 0, 1) := by decide +kernel
theorem dX6_state_81 : decode cX6_state 81 = .ok (.getfield 55, 3) := by decide +kernel
theorem dX6_state_84 : decode cX6_state 84 = .ok (.getfield 124, 3) := by decide +kernel
theorem dX6_state_87 : decode cX6_state 87 = .ok (.ireturn, 1) := by decide +kernel
theorem dX6_state_88 : decode cX6_state 88 = .ok (.iload_n 1, 1) := by decide +kernel
theorem dX6_state_89 : decode cX6_state 89 = .ok (.bipush 16, 2) := by decide +kernel
theorem dX6_state_91 : decode cX6_state 91 = .ok (.if_icmp .lt 9, 3) := by decide +kernel
theorem dX6_state_94 : decode cX6_state 94 = .ok (.iload_n 1, 1) := by decide +kernel
theorem dX6_state_95 : decode cX6_state 95 = .ok (.bipush 31, 2) := by decide +kernel
theorem dX6_state_97 : decode cX6_state 97 = .ok (.if_icmp .le 5, 3) := by decide +kernel
theorem dX6_state_100 : decode cX6_state 100 = .ok (.iconst (-1), 1) := by decide +kernel
theorem dX6_state_101 : decode cX6_state 101 = .ok (.ireturn, 1) := by decide +kernel
theorem dX6_state_102 : decode cX6_state 102 = .ok (.aload_n 0, 1) := by decide +kernel
theorem dX6_state_103 : decode cX6_state 103 = .ok (.getfield 46, 3) := by decide +kernel
theorem dX6_state_106 : decode cX6_state 106 = .ok (.aload_n 0, 1) := by decide +kernel
theorem dX6_state_107 : decode cX6_state 107 = .ok (.getfield 55, 3) := by decide +kernel
theorem dX6_state_110 : decode cX6_state 110 = .ok (.getfield 112, 3) := by decide +kernel
theorem dX6_state_113 : decode cX6_state 113 = .ok (.iconst 2, 1) := by decide +kernel
theorem dX6_state_114 : decode cX6_state 114 = .ok (.iload_n 1, 1) := by decide +kernel
theorem dX6_state_115 : decode cX6_state 115 = .ok (.bipush 16, 2) := by decide +kernel
theorem dX6_state_117 : decode cX6_state 117 = .ok (.isub, 1) := by decide +kernel
theorem dX6_state_118 : decode cX6_state 118 = .ok (.imul, 1) := by decide +kernel
theorem dX6_state_119 : decode cX6_state 119 = .ok (.iadd, 1) := by decide +kernel
theorem dX6_state_120 : decode cX6_state 120 = .ok (.invokevirtual 127, 3) := by decide +kernel
theorem dX6_state_123 : decode cX6_state 123 = .ok (.ireturn, 1) := by decide +kernel
set_option maxRecDepth 20000 in
theorem ggX6_peek_X2_storedAt : GoodIn wsX6_peek wsX2_storedAt := goodIn_r _ [7, 8, 9, 10, 11, 12, 13, 14, 15, 16, 17, 18, 19, 27, 28, 29, 30, 31, 32] (by decide +kernel) (by decide +kernel)
set_option maxRecDepth 20000 in
theorem gX6_peek_X2_storedAt : GoodIn wsX6_peek (wsV RX6 130 RX2 yX2_storedAt wsX2_storedAt) := goodIn_app (goodIn_of _ (by decide +kernel)) ggX6_peek_X2_storedAt
theorem dX6_peek_0 : decode cX6_peek 0 = .ok (.iload_n 1, 1) := by decide +kernel
theorem dX6_peek_1 : decode cX6_peek 1 = .ok (.ifCond .lt 9, 3) := by decide +kernel
theorem dX6_peek_4 : decode cX6_peek 4 = .ok (.iload_n 1, 1) := by decide +kernel
theorem dX6_peek_5 : decode cX6_peek 5 = .ok (.ldc 81, 2) := by decide +kernel
theorem dX6_peek_7 : decode cX6_peek 7 = .ok (.if_icmp .lt 5, 3) := by decide +kernel
theorem dX6_peek_10 : decode cX6_peek 10 = .ok (.iconst (-1), 1) := by decide +kernel
theorem dX6_peek_11 : decode cX6_peek 11 = .ok (.ireturn, 1) := by decide +kernel
theorem dX6_peek_12 : decode cX6_peek 12 = .ok (.aload_n 0, 1) := by decide +kernel
theorem dX6_peek_13 : decode cX6_peek 13 = .ok (.getfield 46, 3) := by decide +kernel
theorem dX6_peek_16 : decode cX6_peek 16 = .ok (.iload_n 1, 1) := by decide +kernel
theorem dX6_peek_17 : decode cX6_peek 17 = .ok (.invokevirtual 130, 3) := by decide +kernel
theorem dX6_peek_20 : decode cX6_peek 20 = .ok (.ireturn, 1) := by decide +kernel
theorem dX6_set_0 : decode cX6_set 0 = .ok (.iload_n 1, 1) := by decide +kernel
theorem dX6_set_1 : decode cX6_set 1 = .ok (.tableswitch 69 0 2 #[27, 41, 55], 27) := by decide +kernel
theorem dX6_set_28 : decode cX6_set 28 = .ok (.aload_n 0, 1) := by decide +kernel
theorem dX6_set_29 : decode cX6_set 29 = .ok (.getfield 55, 3) := by decide +kernel
theorem dX6_set_32 : decode cX6_set 32 = .ok (.iload_n 2, 1) := by decide +kernel
theorem dX6_set_33 : decode cX6_set 33 = .ok (.ldc 133, 2) := by decide +kernel
theorem dX6_set_35 : decode cX6_set 35 = .ok (.iand, 1) := by decide +kernel
theorem dX6_set_36 : decode cX6_set 36 = .ok (.putfield 109, 3) := by decide +kernel
theorem dX6_set_39 : decode cX6_set 39 = .ok (.goto 33, 3) := by decide +kernel
theorem dX6_set_42 : decode cX6_set 42 = .ok (.aload_n 0, 1) := by decide +kernel
theorem dX6_set_43 : decode cX6_set 43 = .ok (.getfield 55, 3) := by decide +kernel
theorem dX6_set_46 : decode cX6_set 46 = .ok (.iload_n 2, 1) := by decide +kernel
theorem dX6_set_47 : decode cX6_set 47 = .ok (.ldc 133, 2) := by decide +kernel
theorem dX6_set_49 : decode cX6_set 49 = .ok (.iand, 1) := by decide +kernel
theorem dX6_set_50 : decode cX6_set 50 = .ok (.putfield 112, 3) := by decide +kernel
theorem dX6_set_53 : decode cX6_set 53 = .ok (.goto 19, 3) := by decide +kernel
theorem dX6_set_56 : decode cX6_set 56 = .ok (.aload_n 0, 1) := by decide +kernel
theorem dX6_set_57 : decode cX6_set 57 = .ok (.getfield 55, 3) := by decide +kernel
theorem dX6_set_60 : decode cX6_set 60 = .ok (.iload_n 2, 1) := by decide +kernel
theorem dX6_set_61 : decode cX6_set 61 = .ok (.ldc 134, 2) := by decide +kernel
theorem dX6_set_63 : decode cX6_set 63 = .ok (.iand, 1) := by decide +kernel
theorem dX6_set_64 : decode cX6_set 64 = .ok (.putfield 115, 3) := by decide +kernel
theorem dX6_set_67 : decode cX6_set 67 = .ok (.goto 5, 3) := by decide +kernel
theorem dX6_set_70 : decode cX6_set 70 = .ok (.iconst 0, 1) := by decide +kernel
theorem dX6_set_71 : decode cX6_set 71 = .ok (.ireturn, 1) := by decide +kernel
theorem dX6_set_72 : decode cX6_set 72 = .ok (.aload_n 0, 1) := by decide +kernel
theorem dX6_set_73 : decode cX6_set 73 = .ok (.getfield 55, 3) := by decide +kernel
theorem dX6_set_76 : decode cX6_set 76 = .ok (.iconst 0, 1) := by decide +kernel
theorem dX6_set_77 : decode cX6_set 77 = .ok (.putfield 118, 3) := by decide +kernel
theorem dX6_set_80 : decode cX6_set 80 = .ok (.iconst 1, 1) := by decide +kernel
theorem dX6_set_81 : decode cX6_set 81 = .ok (.ireturn, 1) := by decide +kernel
theorem dX6_picture_0 : decode cX6_picture 0 = .ok (.iload_n 1, 1) := by decide +kernel
theorem dX6_picture_1 : decode cX6_picture 1 = .ok (.tableswitch 80 0 3 #[31, 39, 47, 64], 31) := by decide +kernel
theorem dX6_picture_32 : decode cX6_picture 32 = .ok (.aload_n 0, 1) := by decide +kernel
theorem dX6_picture_33 : decode cX6_picture 33 = .ok (.getfield 21, 3) := by decide +kernel
theorem dX6_picture_36 : decode cX6_picture 36 = .ok (.getfield 135, 3) := by decide +kernel
theorem dX6_picture_39 : decode cX6_picture 39 = .ok (.ireturn, 1) := by decide +kernel
theorem dX6_picture_40 : decode cX6_picture 40 = .ok (.aload_n 0, 1) := by decide +kernel
theorem dX6_picture_41 : decode cX6_picture 41 = .ok (.getfield 21, 3) := by decide +kernel
theorem dX6_picture_44 : decode cX6_picture 44 = .ok (.getfield 138, 3) := by decide +kernel
theorem dX6_picture_47 : decode cX6_picture 47 = .ok (.ireturn, 1) := by decide +kernel
theorem dX6_picture_48 : decode cX6_picture 48 = .ok (.aload_n 0, 1) := by decide +kernel
theorem dX6_picture_49 : decode cX6_picture 49 = .ok (.getfield 21, 3) := by decide +kernel
theorem dX6_picture_52 : decode cX6_picture 52 = .ok (.getfield 141, 3) := by decide +kernel
theorem dX6_picture_55 : decode cX6_picture 55 = .ok (.iconst (-1), 1) := by decide +kernel
theorem dX6_picture_56 : decode cX6_picture 56 = .ok (.if_icmp .ne 7, 3) := by decide +kernel
theorem dX6_picture_59 : decode cX6_picture 59 = .ok (.iconst 0, 1) := by decide +kernel
theorem dX6_picture_60 : decode cX6_picture 60 = .ok (.goto 4, 3) := by decide +kernel
theorem dX6_picture_63 : decode cX6_picture 63 = .ok (.iconst 1, 1) := by decide +kernel
theorem dX6_picture_64 : decode cX6_picture 64 = .ok (.ireturn, 1) := by decide +kernel
theorem dX6_picture_65 : decode cX6_picture 65 = .ok (.aload_n 0, 1) := by decide +kernel
theorem dX6_picture_66 : decode cX6_picture 66 = .ok (.getfield 21, 3) := by decide +kernel
theorem dX6_picture_69 : decode cX6_picture 69 = .ok (.getfield 144, 3) := by decide +kernel
theorem dX6_picture_72 : decode cX6_picture 72 = .ok (.ifCond .eq 7, 3) := by decide +kernel
theorem dX6_picture_75 : decode cX6_picture 75 = .ok (.iconst 1, 1) := by decide +kernel
theorem dX6_picture_76 : decode cX6_picture 76 = .ok (.goto 4, 3) := by decide +kernel
theorem dX6_picture_79 : decode cX6_picture 79 = .ok (.iconst 0, 1) := by decide +kernel
theorem dX6_picture_80 : decode cX6_picture 80 = .ok (.ireturn, 1) := by decide +kernel
theorem dX6_picture_81 : decode cX6_picture 81 = .ok (.iload_n 1, 1) := by decide +kernel
theorem dX6_picture_82 : decode cX6_picture 82 = .ok (.bipush 8, 2) := by decide +kernel
theorem dX6_picture_84 : decode cX6_picture 84 = .ok (.if_icmp .lt 9, 3) := by decide +kernel
theorem dX6_picture_87 : decode cX6_picture 87 = .ok (.iload_n 1, 1) := by decide +kernel
theorem dX6_picture_88 : decode cX6_picture 88 = .ok (.bipush 15, 2) := by decide +kernel
theorem dX6_picture_90 : decode cX6_picture 90 = .ok (.if_icmp .le 5, 3) := by decide +kernel
theorem dX6_picture_93 : decode cX6_picture 93 = .ok (.iconst (-1), 1) := by decide +kernel
theorem dX6_picture_94 : decode cX6_picture 94 = .ok (.ireturn, 1) := by decide +kernel
theorem dX6_picture_95 : decode cX6_picture 95 = .ok (.aload_n 0, 1) := by decide +kernel
theorem dX6_picture_96 : decode cX6_picture 96 = .ok (.getfield 21, 3) := by decide +kernel
theorem dX6_picture_99 : decode cX6_picture 99 = .ok (.getfield 148, 3) := by decide +kernel
theorem dX6_picture_102 : decode cX6_picture 102 = .ok (.iload_n 1, 1) := by decide +kernel
theorem dX6_picture_103 : decode cX6_picture 103 = .ok (.bipush 8, 2) := by decide +kernel
theorem dX6_picture_105 : decode cX6_picture 105 = .ok (.isub, 1) := by decide +kernel
theorem dX6_picture_106 : decode cX6_picture 106 = .ok (.iaload, 1) := by decide +kernel
theorem dX6_picture_107 : decode cX6_picture 107 = .ok (.ireturn, 1) := by decide +kernel
set_option maxRecDepth 20000 in
theorem ggX6_vram_X0_get : GoodIn wsX6_vram wsX0_get := goodIn_r _ [9, 10, 24] (by decide +kernel) (by decide +kernel)
set_option maxRecDepth 20000 in
theorem gX6_vram_X0_get : GoodIn wsX6_vram (wsV RX6 74 RX0 yX0_get wsX0_get) := goodIn_app (goodIn_of _ (by decide +kernel)) ggX6_vram_X0_get
theorem dX6_vram_0 : decode cX6_vram 0 = .ok (.iload_n 1, 1) := by decide +kernel
theorem dX6_vram_1 : decode cX6_vram 1 = .ok (.ifCond .lt 10, 3) := by decide +kernel
theorem dX6_vram_4 : decode cX6_vram 4 = .ok (.iload_n 1, 1) := by decide +kernel
theorem dX6_vram_5 : decode cX6_vram 5 = .ok (.sipush 16384, 3) := by decide +kernel
theorem dX6_vram_8 : decode cX6_vram 8 = .ok (.if_icmp .lt 13, 3) := by decide +kernel
theorem dX6_vram_11 : decode cX6_vram 11 = .ok (.new 152, 3) := by decide +kernel
theorem dX6_vram_14 : decode cX6_vram 14 = .ok (.dup, 1) := by decide +kernel
theorem dX6_vram_15 : decode cX6_vram 15 = .ok (.ldc 154, 2) := by decide +kernel
theorem dX6_vram_17 : decode cX6_vram 17 = .ok (.invokespecial 156, 3) := by decide +kernel
theorem dX6_vram_20 : decode cX6_vram 20 = .ok (.athrow, 1) := by decide +kernel
theorem dX6_vram_21 : decode cX6_vram 21 = .ok (.aload_n 0, 1) := by decide +kernel
theorem dX6_vram_22 : decode cX6_vram 22 = .ok (.getfield 21, 3) := by decide +kernel
theorem dX6_vram_25 : decode cX6_vram 25 = .ok (.getfield 88, 3) := by decide +kernel
theorem dX6_vram_28 : decode cX6_vram 28 = .ok (.iload_n 1, 1) := by decide +kernel
theorem dX6_vram_29 : decode cX6_vram 29 = .ok (.invokevirtual 74, 3) := by decide +kernel
theorem dX6_vram_32 : decode cX6_vram 32 = .ok (.ireturn, 1) := by decide +kernel
theorem dX6_grom_0 : decode cX6_grom 0 = .ok (.iload_n 1, 1) := by decide +kernel
theorem dX6_grom_1 : decode cX6_grom 1 = .ok (.tableswitch 59 0 2 #[27, 35, 43], 27) := by decide +kernel
theorem dX6_grom_28 : decode cX6_grom 28 = .ok (.aload_n 0, 1) := by decide +kernel
theorem dX6_grom_29 : decode cX6_grom 29 = .ok (.getfield 28, 3) := by decide +kernel
theorem dX6_grom_32 : decode cX6_grom 32 = .ok (.getfield 157, 3) := by decide +kernel
theorem dX6_grom_35 : decode cX6_grom 35 = .ok (.ireturn, 1) := by decide +kernel
theorem dX6_grom_36 : decode cX6_grom 36 = .ok (.aload_n 0, 1) := by decide +kernel
theorem dX6_grom_37 : decode cX6_grom 37 = .ok (.getfield 28, 3) := by decide +kernel
theorem dX6_grom_40 : decode cX6_grom 40 = .ok (.getfield 158, 3) := by decide +kernel
theorem dX6_grom_43 : decode cX6_grom 43 = .ok (.ireturn, 1) := by decide +kernel
theorem dX6_grom_44 : decode cX6_grom 44 = .ok (.aload_n 0, 1) := by decide +kernel
theorem dX6_grom_45 : decode cX6_grom 45 = .ok (.getfield 28, 3) := by decide +kernel
theorem dX6_grom_48 : decode cX6_grom 48 = .ok (.getfield 159, 3) := by decide +kernel
theorem dX6_grom_51 : decode cX6_grom 51 = .ok (.ifCond .eq 7, 3) := by decide +kernel
theorem dX6_grom_54 : decode cX6_grom 54 = .ok (.iconst 1, 1) := by decide +kernel
theorem dX6_grom_55 : decode cX6_grom 55 = .ok (.goto 4, 3) := by decide +kernel
theorem dX6_grom_58 : decode cX6_grom 58 = .ok (.iconst 0, 1) := by decide +kernel
theorem dX6_grom_59 : decode cX6_grom 59 = .ok (.ireturn, 1) := by decide +kernel
theorem dX6_grom_60 : decode cX6_grom 60 = .ok (.iconst (-1), 1) := by decide +kernel
theorem dX6_grom_61 : decode cX6_grom 61 = .ok (.ireturn, 1) := by decide +kernel
theorem dX6_frame_0 : decode cX6_frame 0 = .ok (.aload_n 0, 1) := by decide +kernel
theorem dX6_frame_1 : decode cX6_frame 1 = .ok (.getfield 21, 3) := by decide +kernel
theorem dX6_frame_4 : decode cX6_frame 4 = .ok (.iconst 1, 1) := by decide +kernel
theorem dX6_frame_5 : decode cX6_frame 5 = .ok (.putfield 144, 3) := by decide +kernel
theorem dX6_frame_8 : decode cX6_frame 8 = .ok (.return_, 1) := by decide +kernel
theorem dX6_interrupt_0 : decode cX6_interrupt 0 = .ok (.iload_n 1, 1) := by decide +kernel
theorem dX6_interrupt_1 : decode cX6_interrupt 1 = .ok (.iconst 2, 1) := by decide +kernel
theorem dX6_interrupt_2 : decode cX6_interrupt 2 = .ok (.if_icmp .lt 9, 3) := by decide +kernel
theorem dX6_interrupt_5 : decode cX6_interrupt 5 = .ok (.iload_n 1, 1) := by decide +kernel
theorem dX6_interrupt_6 : decode cX6_interrupt 6 = .ok (.bipush 15, 2) := by decide +kernel
theorem dX6_interrupt_8 : decode cX6_interrupt 8 = .ok (.if_icmp .le 5, 3) := by decide +kernel
theorem dX6_interrupt_11 : decode cX6_interrupt 11 = .ok (.iconst 0, 1) := by decide +kernel
theorem dX6_interrupt_12 : decode cX6_interrupt 12 = .ok (.ireturn, 1) := by decide +kernel
theorem dX6_interrupt_13 : decode cX6_interrupt 13 = .ok (.aload_n 0, 1) := by decide +kernel
theorem dX6_interrupt_14 : decode cX6_interrupt 14 = .ok (.getfield 55, 3) := by decide +kernel
theorem dX6_interrupt_17 : decode cX6_interrupt 17 = .ok (.dup, 1) := by decide +kernel
theorem dX6_interrupt_18 : decode cX6_interrupt 18 = .ok (.getfield 162, 3) := by decide +kernel
theorem dX6_interrupt_21 : decode cX6_interrupt 21 = .ok (.iconst 1, 1) := by decide +kernel
theorem dX6_interrupt_22 : decode cX6_interrupt 22 = .ok (.iload_n 1, 1) := by decide +kernel
theorem dX6_interrupt_23 : decode cX6_interrupt 23 = .ok (.ishl, 1) := by decide +kernel
theorem dX6_interrupt_24 : decode cX6_interrupt 24 = .ok (.ior, 1) := by decide +kernel
theorem dX6_interrupt_25 : decode cX6_interrupt 25 = .ok (.putfield 162, 3) := by decide +kernel
theorem dX6_interrupt_28 : decode cX6_interrupt 28 = .ok (.iconst 1, 1) := by decide +kernel
theorem dX6_interrupt_29 : decode cX6_interrupt 29 = .ok (.ireturn, 1) := by decide +kernel
set_option maxRecDepth 20000 in
theorem ggX6_key_X5_press : GoodIn wsX6_key wsX5_press := goodIn_r _ [6, 7, 8, 16, 17, 18] (by decide +kernel) (by decide +kernel)
set_option maxRecDepth 20000 in
theorem gX6_key_X5_press : GoodIn wsX6_key (wsV RX6 165 RX5 yX5_press wsX5_press) := goodIn_app (goodIn_of _ (by decide +kernel)) ggX6_key_X5_press
theorem dX6_key_0 : decode cX6_key 0 = .ok (.iload_n 1, 1) := by decide +kernel
theorem dX6_key_1 : decode cX6_key 1 = .ok (.ifCond .lt 19, 3) := by decide +kernel
theorem dX6_key_4 : decode cX6_key 4 = .ok (.iload_n 1, 1) := by decide +kernel
theorem dX6_key_5 : decode cX6_key 5 = .ok (.bipush 7, 2) := by decide +kernel
theorem dX6_key_7 : decode cX6_key 7 = .ok (.if_icmp .gt 13, 3) := by decide +kernel
theorem dX6_key_10 : decode cX6_key 10 = .ok (.iload_n 2, 1) := by decide +kernel
theorem dX6_key_11 : decode cX6_key 11 = .ok (.ifCond .lt 9, 3) := by decide +kernel
theorem dX6_key_14 : decode cX6_key 14 = .ok (.iload_n 2, 1) := by decide +kernel
theorem dX6_key_15 : decode cX6_key 15 = .ok (.bipush 7, 2) := by decide +kernel
theorem dX6_key_17 : decode cX6_key 17 = .ok (.if_icmp .le 5, 3) := by decide +kernel
theorem dX6_key_20 : decode cX6_key 20 = .ok (.iconst 0, 1) := by decide +kernel
theorem dX6_key_21 : decode cX6_key 21 = .ok (.ireturn, 1) := by decide +kernel
theorem dX6_key_22 : decode cX6_key 22 = .ok (.aload_n 0, 1) := by decide +kernel
theorem dX6_key_23 : decode cX6_key 23 = .ok (.getfield 37, 3) := by decide +kernel
theorem dX6_key_26 : decode cX6_key 26 = .ok (.iload_n 1, 1) := by decide +kernel
theorem dX6_key_27 : decode cX6_key 27 = .ok (.iload_n 2, 1) := by decide +kernel
theorem dX6_key_28 : decode cX6_key 28 = .ok (.iload_n 3, 1) := by decide +kernel
theorem dX6_key_29 : decode cX6_key 29 = .ok (.invokevirtual 165, 3) := by decide +kernel
theorem dX6_key_32 : decode cX6_key 32 = .ok (.iconst 1, 1) := by decide +kernel
theorem dX6_key_33 : decode cX6_key 33 = .ok (.ireturn, 1) := by decide +kernel
set_option maxRecDepth 20000 in
theorem ggX6_out_X5_exists : GoodIn wsX6_out wsX5_exists := goodIn_r _ [5] (by decide +kernel) (by decide +kernel)
set_option maxRecDepth 20000 in
theorem gX6_out_X5_exists : GoodIn wsX6_out (va_wsS RX6 169 yX5_exists wsX5_exists) := goodIn_app (goodIn_of _ (by decide +kernel)) ggX6_out_X5_exists
