theorem dX6_feed_19 : decode cX6_feed 19 = .ok (.invokevirtual 63, 3) := by decide +kernel
theorem dX6_feed_22 : decode cX6_feed 22 = .ok (.aload_n 0, 1) := by decide +kernel
theorem dX6_feed_23 : decode cX6_feed 23 = .ok (.iload_n 3, 1) := by decide +kernel
theorem dX6_feed_24 : decode cX6_feed 24 = .ok (.invokevirtual 63, 3) := by decide +kernel
theorem dX6_feed_27 : decode cX6_feed 27 = .ok (.aload_n 0, 1) := by decide +kernel
theorem dX6_feed_28 : decode cX6_feed 28 = .ok (.iload 4, 2) := by decide +kernel
theorem dX6_feed_30 : decode cX6_feed 30 = .ok (.invokevirtual 63, 3) := by decide +kernel
theorem dX6_feed_33 : decode cX6_feed 33 = .ok (.aload_n 0, 1) := by decide +kernel
theorem dX6_feed_34 : decode cX6_feed 34 = .ok (.iload 5, 2) := by decide +kernel
theorem dX6_feed_36 : decode cX6_feed 36 = .ok (.invokevirtual 63, 3) := by decide +kernel
theorem dX6_feed_39 : decode cX6_feed 39 = .ok (.aload_n 0, 1) := by decide +kernel
theorem dX6_feed_40 : decode cX6_feed 40 = .ok (.getfield 59, 3) := by decide +kernel
theorem dX6_feed_43 : decode cX6_feed 43 = .ok (.ireturn, 1) := by decide +kernel
theorem dX6_append_0 : decode cX6_append 0 = .ok (.bipush 24, 2) := by decide +kernel
theorem dX6_append_2 : decode cX6_append 2 = .ok (.istore_n 2, 1) := by decide +kernel
theorem dX6_append_3 : decode cX6_append 3 = .ok (.iload_n 2, 1) := by decide +kernel
theorem dX6_append_4 : decode cX6_append 4 = .ok (.ifCond .lt 33, 3) := by decide +kernel
theorem dX6_append_7 : decode cX6_append 7 = .ok (.aload_n 0, 1) := by decide +kernel
theorem dX6_append_8 : decode cX6_append 8 = .ok (.getfield 14, 3) := by decide +kernel
theorem dX6_append_11 : decode cX6_append 11 = .ok (.aload_n 0, 1) := by decide +kernel
theorem dX6_append_12 : decode cX6_append 12 = .ok (.getfield 59, 3) := by decide +kernel
theorem dX6_append_15 : decode cX6_append 15 = .ok (.iload_n 1, 1) := by decide +kernel
theorem dX6_append_16 : decode cX6_append 16 = .ok (.iload_n 2, 1) := by decide +kernel
theorem dX6_append_17 : decode cX6_append 17 = .ok (.ishr, 1) := by decide +kernel
theorem dX6_append_18 : decode cX6_append 18 = .ok (.invokevirtual 66, 3) := by decide +kernel
theorem dX6_append_21 : decode cX6_append 21 = .ok (.aload_n 0, 1) := by decide +kernel
theorem dX6_append_22 : decode cX6_append 22 = .ok (.dup, 1) := by decide +kernel
theorem dX6_append_23 : decode cX6_append 23 = .ok (.getfield 59, 3) := by decide +kernel
theorem dX6_append_26 : decode cX6_append 26 = .ok (.iconst 1, 1) := by decide +kernel
theorem dX6_append_27 : decode cX6_append 27 = .ok (.iadd, 1) := by decide +kernel
theorem dX6_append_28 : decode cX6_append 28 = .ok (.putfield 59, 3) := by decide +kernel
theorem dX6_append_31 : decode cX6_append 31 = .ok (.iinc 2 (-8), 3) := by decide +kernel
theorem dX6_append_34 : decode cX6_append 34 = .ok (.goto (-31), 3) := by decide +kernel
theorem dX6_append_37 : decode cX6_append 37 = .ok (.return_, 1) := by decide +kernel
theorem dX6_end_0 : decode cX6_end 0 = .ok (.iload_n 1, 1) := by decide +kernel
theorem dX6_end_1 : decode cX6_end 1 = .ok (.ifCond .lt 11, 3) := by decide +kernel
theorem dX6_end_4 : decode cX6_end 4 = .ok (.iload_n 1, 1) := by decide +kernel
theorem dX6_end_5 : decode cX6_end 5 = .ok (.aload_n 0, 1) := by decide +kernel
theorem dX6_end_6 : decode cX6_end 6 = .ok (.getfield 59, 3) := by decide +kernel
theorem dX6_end_9 : decode cX6_end 9 = .ok (.if_icmp .le 5, 3) := by decide +kernel
theorem dX6_end_12 : decode cX6_end 12 = .ok (.iconst (-1), 1) := by decide +kernel
theorem dX6_end_13 : decode cX6_end 13 = .ok (.ireturn, 1) := by decide +kernel
theorem dX6_end_14 : decode cX6_end 14 = .ok (.aload_n 0, 1) := by decide +kernel
theorem dX6_end_15 : decode cX6_end 15 = .ok (.iload_n 1, 1) := by decide +kernel
theorem dX6_end_16 : decode cX6_end 16 = .ok (.putfield 59, 3) := by decide +kernel
theorem dX6_end_19 : decode cX6_end 19 = .ok (.iload_n 1, 1) := by decide +kernel
theorem dX6_end_20 : decode cX6_end 20 = .ok (.ireturn, 1) := by decide +kernel
theorem dX6_load_0 : decode cX6_load 0 = .ok (.iload_n 1, 1) := by decide +kernel
theorem dX6_load_1 : decode cX6_load 1 = .ok (.invokestatic 70, 3) := by decide +kernel
theorem dX6_load_4 : decode cX6_load 4 = .ok (.istore_n 3, 1) := by decide +kernel
theorem dX6_load_5 : decode cX6_load 5 = .ok (.iload_n 3, 1) := by decide +kernel
theorem dX6_load_6 : decode cX6_load 6 = .ok (.iconst (-1), 1) := by decide +kernel
theorem dX6_load_7 : decode cX6_load 7 = .ok (.if_icmp .eq 17, 3) := by decide +kernel
theorem dX6_load_10 : decode cX6_load 10 = .ok (.iload_n 2, 1) := by decide +kernel
theorem dX6_load_11 : decode cX6_load 11 = .ok (.ifCond .lt 13, 3) := by decide +kernel
theorem dX6_load_14 : decode cX6_load 14 = .ok (.iload_n 2, 1) := by decide +kernel
theorem dX6_load_15 : decode cX6_load 15 = .ok (.iload_n 3, 1) := by decide +kernel
theorem dX6_load_16 : decode cX6_load 16 = .ok (.aload_n 0, 1) := by decide +kernel
theorem dX6_load_17 : decode cX6_load 17 = .ok (.getfield 59, 3) := by decide +kernel
theorem dX6_load_20 : decode cX6_load 20 = .ok (.isub, 1) := by decide +kernel
theorem dX6_load_21 : decode cX6_load 21 = .ok (.if_icmp .le 5, 3) := by decide +kernel
theorem dX6_load_24 : decode cX6_load 24 = .ok (.iconst (-1), 1) := by decide +kernel
theorem dX6_load_25 : decode cX6_load 25 = .ok (.ireturn, 1) := by decide +kernel
theorem dX6_load_26 : decode cX6_load 26 = .ok (.aload_n 0, 1) := by decide +kernel
theorem dX6_load_27 : decode cX6_load 27 = .ok (.getfield 59, 3) := by decide +kernel
theorem dX6_load_30 : decode cX6_load 30 = .ok (.istore 4, 2) := by decide +kernel
theorem dX6_load_32 : decode cX6_load 32 = .ok (.iconst 0, 1) := by decide +kernel
theorem dX6_load_33 : decode cX6_load 33 = .ok (.istore 5, 2) := by decide +kernel
theorem dX6_load_35 : decode cX6_load 35 = .ok (.iload 5, 2) := by decide +kernel
theorem dX6_load_37 : decode cX6_load 37 = .ok (.iload 4, 2) := by decide +kernel
theorem dX6_load_39 : decode cX6_load 39 = .ok (.if_icmp .ge 27, 3) := by decide +kernel
theorem dX6_load_42 : decode cX6_load 42 = .ok (.aload_n 0, 1) := by decide +kernel
theorem dX6_load_43 : decode cX6_load 43 = .ok (.iload_n 1, 1) := by decide +kernel
theorem dX6_load_44 : decode cX6_load 44 = .ok (.iload_n 2, 1) := by decide +kernel
theorem dX6_load_45 : decode cX6_load 45 = .ok (.iload 5, 2) := by decide +kernel
theorem dX6_load_47 : decode cX6_load 47 = .ok (.iadd, 1) := by decide +kernel
theorem dX6_load_48 : decode cX6_load 48 = .ok (.aload_n 0, 1) := by decide +kernel
theorem dX6_load_49 : decode cX6_load 49 = .ok (.getfield 14, 3) := by decide +kernel
theorem dX6_load_52 : decode cX6_load 52 = .ok (.iload 5, 2) := by decide +kernel
theorem dX6_load_54 : decode cX6_load 54 = .ok (.invokevirtual 74, 3) := by decide +kernel
theorem dX6_load_57 : decode cX6_load 57 = .ok (.invokevirtual 77, 3) := by decide +kernel
theorem dX6_load_60 : decode cX6_load 60 = .ok (.iinc 5 1, 3) := by decide +kernel
theorem dX6_load_63 : decode cX6_load 63 = .ok (.goto (-28), 3) := by decide +kernel
theorem dX6_load_66 : decode cX6_load 66 = .ok (.aload_n 0, 1) := by decide +kernel
theorem dX6_load_67 : decode cX6_load 67 = .ok (.iconst 0, 1) := by decide +kernel
theorem dX6_load_68 : decode cX6_load 68 = .ok (.putfield 59, 3) := by decide +kernel
theorem dX6_load_71 : decode cX6_load 71 = .ok (.iload 4, 2) := by decide +kernel
theorem dX6_load_73 : decode cX6_load 73 = .ok (.ireturn, 1) := by decide +kernel
theorem dX6_sizeOfArea_0 : decode cX6_sizeOfArea 0 = .ok (.iload_n 0, 1) := by decide +kernel
theorem dX6_sizeOfArea_1 : decode cX6_sizeOfArea 1 = .ok (.tableswitch 46 0 3 #[31, 35, 38, 42], 31) := by decide +kernel
theorem dX6_sizeOfArea_32 : decode cX6_sizeOfArea 32 = .ok (.sipush 8192, 3) := by decide +kernel
theorem dX6_sizeOfArea_35 : decode cX6_sizeOfArea 35 = .ok (.ireturn, 1) := by decide +kernel
theorem dX6_sizeOfArea_36 : decode cX6_sizeOfArea 36 = .ok (.ldc 81, 2) := by decide +kernel
theorem dX6_sizeOfArea_38 : decode cX6_sizeOfArea 38 = .ok (.ireturn, 1) := by decide +kernel
theorem dX6_sizeOfArea_39 : decode cX6_sizeOfArea 39 = .ok (.sipush 16384, 3) := by decide +kernel
theorem dX6_sizeOfArea_42 : decode cX6_sizeOfArea 42 = .ok (.ireturn, 1) := by decide +kernel
theorem dX6_sizeOfArea_43 : decode cX6_sizeOfArea 43 = .ok (.sipush 8192, 3) := by decide +kernel
theorem dX6_sizeOfArea_46 : decode cX6_sizeOfArea 46 = .ok (.ireturn, 1) := by decide +kernel
theorem dX6_sizeOfArea_47 : decode cX6_sizeOfArea 47 = .ok (.iconst (-1), 1) := by decide +kernel
theorem dX6_sizeOfArea_48 : decode cX6_sizeOfArea 48 = .ok (.ireturn, 1) := by decide +kernel
theorem dX6_putInArea_0 : decode cX6_putInArea 0 = .ok (.iload_n 1, 1) := by decide +kernel
theorem dX6_putInArea_1 : decode cX6_putInArea 1 = .ok (.tableswitch 69 0 2 #[27, 42, 54], 27) := by decide +kernel
theorem dX6_putInArea_28 : decode cX6_putInArea 28 = .ok (.aload_n 0, 1) := by decide +kernel
theorem dX6_putInArea_29 : decode cX6_putInArea 29 = .ok (.getfield 46, 3) := by decide +kernel
theorem dX6_putInArea_32 : decode cX6_putInArea 32 = .ok (.getfield 82, 3) := by decide +kernel
theorem dX6_putInArea_35 : decode cX6_putInArea 35 = .ok (.iload_n 2, 1) := by decide +kernel
theorem dX6_putInArea_36 : decode cX6_putInArea 36 = .ok (.iload_n 3, 1) := by decide +kernel
theorem dX6_putInArea_37 : decode cX6_putInArea 37 = .ok (.invokevirtual 66, 3) := by decide +kernel
theorem dX6_putInArea_40 : decode cX6_putInArea 40 = .ok (.goto 42, 3) := by decide +kernel
theorem dX6_putInArea_43 : decode cX6_putInArea 43 = .ok (.aload_n 0, 1) := by decide +kernel
theorem dX6_putInArea_44 : decode cX6_putInArea 44 = .ok (.getfield 46, 3) := by decide +kernel
theorem dX6_putInArea_47 : decode cX6_putInArea 47 = .ok (.iload_n 2, 1) := by decide +kernel
theorem dX6_putInArea_48 : decode cX6_putInArea 48 = .ok (.iload_n 3, 1) := by decide +kernel
theorem dX6_putInArea_49 : decode cX6_putInArea 49 = .ok (.invokevirtual 85, 3) := by decide +kernel
theorem dX6_putInArea_52 : decode cX6_putInArea 52 = .ok (.goto 30, 3) := by decide +kernel
theorem dX6_putInArea_55 : decode cX6_putInArea 55 = .ok (.aload_n 0, 1) := by decide +kernel
theorem dX6_putInArea_56 : decode cX6_putInArea 56 = .ok (.getfield 21, 3) := by decide +kernel
theorem dX6_putInArea_59 : decode cX6_putInArea 59 = .ok (.getfield 88, 3) := by decide +kernel
theorem dX6_putInArea_62 : decode cX6_putInArea 62 = .ok (.iload_n 2, 1) := by decide +kernel
theorem dX6_putInArea_63 : decode cX6_putInArea 63 = .ok (.iload_n 3, 1) := by decide +kernel
theorem dX6_putInArea_64 : decode cX6_putInArea 64 = .ok (.invokevirtual 66, 3) := by decide +kernel
theorem dX6_putInArea_67 : decode cX6_putInArea 67 = .ok (.goto 15, 3) := by decide +kernel
theorem dX6_putInArea_70 : decode cX6_putInArea 70 = .ok (.aload_n 0, 1) := by decide +kernel
theorem dX6_putInArea_71 : decode cX6_putInArea 71 = .ok (.getfield 28, 3) := by decide +kernel
theorem dX6_putInArea_74 : decode cX6_putInArea 74 = .ok (.getfield 91, 3) := by decide +kernel
theorem dX6_putInArea_77 : decode cX6_putInArea 77 = .ok (.iload_n 2, 1) := by decide +kernel
theorem dX6_putInArea_78 : decode cX6_putInArea 78 = .ok (.iload_n 3, 1) := by decide +kernel
theorem dX6_putInArea_79 : decode cX6_putInArea 79 = .ok (.invokevirtual 66, 3) := by decide +kernel
theorem dX6_putInArea_82 : decode cX6_putInArea 82 = .ok (.return_, 1) := by decide +kernel
theorem dX6_reset_0 : decode cX6_reset 0 = .ok (.aload_n 0, 1) := by decide +kernel
theorem dX6_reset_1 : decode cX6_reset 1 = .ok (.getfield 55, 3) := by decide +kernel
theorem dX6_reset_4 : decode cX6_reset 4 = .ok (.invokevirtual 92, 3) := by decide +kernel
theorem dX6_reset_7 : decode cX6_reset 7 = .ok (.return_, 1) := by decide +kernel
theorem dX6_run_0 : decode cX6_run 0 = .ok (.iload_n 1, 1) := by decide +kernel
theorem dX6_run_1 : decode cX6_run 1 = .ok (.ifCond .lt 10, 3) := by decide +kernel
theorem dX6_run_4 : decode cX6_run 4 = .ok (.iload_n 1, 1) := by decide +kernel
theorem dX6_run_5 : decode cX6_run 5 = .ok (.sipush 2000, 3) := by decide +kernel
theorem dX6_run_8 : decode cX6_run 8 = .ok (.if_icmp .le 13, 3) := by decide +kernel
theorem dX6_run_11 : decode cX6_run 11 = .ok (.new 95, 3) := by decide +kernel
theorem dX6_run_14 : decode cX6_run 14 = .ok (.dup, 1) := by decide +kernel
theorem dX6_run_15 : decode cX6_run 15 = .ok (.ldc 97, 2) := by decide +kernel
theorem dX6_run_17 : decode cX6_run 17 = .ok (.invokespecial 99, 3) := by decide +kernel
theorem dX6_run_20 : decode cX6_run 20 = .ok (.athrow, 1) := by decide +kernel
theorem dX6_run_21 : decode cX6_run 21 = .ok (.iconst 0, 1) := by decide +kernel
theorem dX6_run_22 : decode cX6_run 22 = .ok (.istore_n 2, 1) := by decide +kernel
theorem dX6_run_23 : decode cX6_run 23 = .ok (.iload_n 2, 1) := by decide +kernel
theorem dX6_run_24 : decode cX6_run 24 = .ok (.iload_n 1, 1) := by decide +kernel
theorem dX6_run_25 : decode cX6_run 25 = .ok (.if_icmp .ge 28, 3) := by decide +kernel
theorem dX6_run_28 : decode cX6_run 28 = .ok (.aload_n 0, 1) := by decide +kernel
theorem dX6_run_29 : decode cX6_run 29 = .ok (.getfield 55, 3) := by decide +kernel
theorem dX6_run_32 : decode cX6_run 32 = .ok (.invokevirtual 102, 3) := by decide +kernel
theorem dX6_run_35 : decode cX6_run 35 = .ok (.ifCond .ne 5, 3) := by decide +kernel
theorem dX6_run_38 : decode cX6_run 38 = .ok (.iload_n 2, 1) := by decide +kernel
theorem dX6_run_39 : decode cX6_run 39 = .ok (.ireturn, 1) := by decide +kernel
theorem dX6_run_40 : decode cX6_run 40 = .ok (.aload_n 0, 1) := by decide +kernel
theorem dX6_run_41 : decode cX6_run 41 = .ok (.getfield 55, 3) := by decide +kernel
theorem dX6_run_44 : decode cX6_run 44 = .ok (.invokevirtual 106, 3) := by decide +kernel
theorem dX6_run_47 : decode cX6_run 47 = .ok (.iinc 2 1, 3) := by decide +kernel
theorem dX6_run_50 : decode cX6_run 50 = .ok (.goto (-27), 3) := by decide +kernel
theorem dX6_run_53 : decode cX6_run 53 = .ok (.iload_n 1, 1) := by decide +kernel
theorem dX6_run_54 : decode cX6_run 54 = .ok (.ireturn, 1) := by decide +kernel
theorem dX6_state_0 : decode cX6_state 0 = .ok (.iload_n 1, 1) := by decide +kernel
theorem dX6_state_1 : decode cX6_state 1 = .ok (.tableswitch 87 0 5 #[39, 47, 55, 63, 71, 79], 39) := by decide +kernel
theorem dX6_state_40 : decode cX6_state 40 = .ok (.aload_n 0, 1) := by decide +kernel
theorem dX6_state_41 : decode cX6_state 41 = .ok (.getfield 55, 3) := by decide +kernel
theorem dX6_state_44 : decode cX6_state 44 = .ok (.getfield 109, 3) := by decide +kernel
theorem dX6_state_47 : decode cX6_state 47 = .ok (.ireturn, 1) := by decide +kernel
theorem dX6_state_48 : decode cX6_state 48 = .ok (.aload_n 0, 1) := by decide +kernel
theorem dX6_state_49 : decode cX6_state 49 = .ok (.getfield 55, 3) := by decide +kernel
theorem dX6_state_52 : decode cX6_state 52 = .ok (.getfield 112, 3) := by decide +kernel
theorem dX6_state_55 : decode cX6_state 55 = .ok (.ireturn, 1) := by decide +kernel
theorem dX6_state_56 : decode cX6_state 56 = .ok (.aload_n 0, 1) := by decide +kernel
theorem dX6_state_57 : decode cX6_state 57 = .ok (.getfield 55, 3) := by decide +kernel
theorem dX6_state_60 : decode cX6_state 60 = .ok (.getfield 115, 3) := by decide +kernel
theorem dX6_state_63 : decode cX6_state 63 = .ok (.ireturn, 1) := by decide +kernel
theorem dX6_state_64 : decode cX6_state 64 = .ok (.aload_n 0, 1) := by decide +kernel
theorem dX6_state_65 : decode cX6_state 65 = .ok (.getfield 55, 3) := by decide +kernel
theorem dX6_state_68 : decode cX6_state 68 = .ok (.getfield 118, 3) := by decide +kernel
theorem dX6_state_71 : decode cX6_state 71 = .ok (.ireturn, 1) := by decide +kernel
theorem dX6_state_72 : decode cX6_state 72 = .ok (.aload_n 0, 1) := by decide +kernel
theorem dX6_state_73 : decode cX6_state 73 = .ok (.getfield 55, 3) := by decide +kernel
theorem dX6_state_76 : decode cX6_state 76 = .ok (.getfield 121, 3) := by decide +kernel
theorem dX6_state_79 : decode cX6_state 79 = .ok (.ireturn, 1) := by decide +kernel
theorem dX6_state_80 : decode cX6_state 80 = .ok (.aload_n 0, 1) := by decide +kernel
theorem dX6_state_81 : decode cX6_state 81 = .ok (.getfield 55, 3) := by decide +kernel
theorem dX6_state_84 : decode cX6_state 84 = .ok (.getfield 124, 3) := by decide +kernel
theorem dX6_state_87 : decode cX6_state 87 = .ok (.ireturn, 1) := by decide +kernel
theorem dX6_state_88 : decode cX6_state 88 = .ok (.iload_n 1, 1) := by decide +kernel
theorem dX6_state_89 : decode cX6_state 89 = .ok (.bipush 16, 2) := by decide +kernel
theorem dX6_state_91 : decode cX6_state 91 = .ok (.if_icmp .lt 9, 3) := by decide +kernel
theorem dX6_state_94 : decode cX6_state 94 = .ok (.iload_n 1, 1) := by decide +kernel
theorem dX6_state_95 : decode cX6_state 95 = .ok (.bipush 31, 2) := by decide +kernel
theorem dX6_state_97 : decode cX6_state 97 = .ok (.if_icmp .le 5, 3) := by decide +kernel
theorem dX6_state_100 : decode cX6_state 100 = .ok (.iconst (-1), 1) := by decide +kernel
theorem dX6_state_101 : decode cX6_state 101 = .ok (.ireturn, 1) := by decide +kernel
theorem dX6_state_102 : decode cX6_state 102 = .ok (.aload_n 0, 1) := by decide +kernel
theorem dX6_state_103 : decode cX6_state 103 = .ok (.getfield 46, 3) := by decide +kernel
theorem dX6_state_106 : decode cX6_state 106 = .ok (.aload_n 0, 1) := by decide +kernel
theorem dX6_state_107 : decode cX6_state 107 = .ok (.getfield 55, 3) := by decide +kernel
theorem dX6_state_110 : decode cX6_state 110 = .ok (.getfield 112, 3) := by decide +kernel
theorem dX6_state_113 : decode cX6_state 113 = .ok (.iconst 2, 1) := by decide +kernel
theorem dX6_state_114 : decode cX6_state 114 = .ok (.iload_n 1, 1) := by decide +kernel
theorem dX6_state_115 : decode cX6_state 115 = .ok (.bipush 16, 2) := by decide +kernel
theorem dX6_state_117 : decode cX6_state 117 = .ok (.isub, 1) := by decide +kernel
theorem dX6_state_118 : decode cX6_state 118 = .ok (.imul, 1) := by decide +kernel
theorem dX6_state_119 : decode cX6_state 119 = .ok (.iadd, 1) := by decide +kernel
theorem dX6_state_120 : decode cX6_state 120 = .ok (.invokevirtual 127, 3) := by decide +kernel
theorem dX6_state_123 : decode cX6_state 123 = .ok (.ireturn, 1) := by decide +kernel
theorem dX6_peek_0 : decode cX6_peek 0 = .ok (.iload_n 1, 1) := by decide +kernel
theorem dX6_peek_1 : decode cX6_peek 1 = .ok (.ifCond .lt 9, 3) := by decide +kernel
theorem dX6_peek_4 : decode cX6_peek 4 = .ok (.iload_n 1, 1) := by decide +kernel
theorem dX6_peek_5 : decode cX6_peek 5 = .ok (.ldc 81, 2) := by decide +kernel
theorem dX6_peek_7 : decode cX6_peek 7 = .ok (.if_icmp .lt 5, 3) := by decide +kernel
theorem dX6_peek_10 : decode cX6_peek 10 = .ok (.iconst (-1), 1) := by decide +kernel
theorem dX6_peek_11 : decode cX6_peek 11 = .ok (.ireturn, 1) := by decide +kernel
theorem dX6_peek_12 : decode cX6_peek 12 = .ok (.aload_n 0, 1) := by decide +kernel
theorem dX6_peek_13 : decode cX6_peek 13 = .ok (.getfield 46, 3) := by decide +kernel
theorem dX6_peek_16 : decode cX6_peek 16 = .ok (.iload_n 1, 1) := by decide +kernel
theorem dX6_peek_17 : decode cX6_peek 17 = .ok (.invokevirtual 130, 3) := by decide +kernel
theorem dX6_peek_20 : decode cX6_peek 20 = .ok (.ireturn, 1) := by decide +kernel
theorem dX6_set_0 : decode cX6_set 0 = .ok (.iload_n 1, 1) := by decide +kernel
theorem dX6_set_1 : decode cX6_set 1 = .ok (.tableswitch 69 0 2 #[27, 41, 55], 27) := by decide +kernel
theorem dX6_set_28 : decode cX6_set 28 = .ok (.aload_n 0, 1) := by decide +kernel
theorem dX6_set_29 : decode cX6_set 29 = .ok (.getfield 55, 3) := by decide +kernel
theorem dX6_set_32 : decode cX6_set 32 = .ok (.iload_n 2, 1) := by decide +kernel
theorem dX6_set_33 : decode cX6_set 33 = .ok (.ldc 133, 2) := by decide +kernel
theorem dX6_set_35 : decode cX6_set 35 = .ok (.iand, 1) := by decide +kernel
theorem dX6_set_36 : decode cX6_set 36 = .ok (.putfield 109, 3) := by decide +kernel
theorem dX6_set_39 : decode cX6_set 39 = .ok (.goto 33, 3) := by decide +kernel
theorem dX6_set_42 : decode cX6_set 42 = .ok (.aload_n 0, 1) := by decide +kernel
theorem dX6_set_43 : decode cX6_set 43 = .ok (.getfield 55, 3) := by decide +kernel
theorem dX6_set_46 : decode cX6_set 46 = .ok (.iload_n 2, 1) := by decide +kernel
theorem dX6_set_47 : decode cX6_set 47 = .ok (.ldc 133, 2) := by decide +kernel
theorem dX6_set_49 : decode cX6_set 49 = .ok (.iand, 1) := by decide +kernel
theorem dX6_set_50 : decode cX6_set 50 = .ok (.putfield 112, 3) := by decide +kernel
theorem dX6_set_53 : decode cX6_set 53 = .ok (.goto 19, 3) := by decide +kernel
theorem dX6_set_56 : decode cX6_set 56 = .ok (.aload_n 0, 1) := by decide +kernel
theorem dX6_set_57 : decode cX6_set 57 = .ok (.getfield 55, 3) := by decide +kernel
theorem dX6_set_60 : decode cX6_set 60 = .ok (.iload_n 2, 1) := by decide +kernel
theorem dX6_set_61 : decode cX6_set 61 = .ok (.ldc 134, 2) := by decide +kernel
theorem dX6_set_63 : decode cX6_set 63 = .ok (.iand, 1) := by decide +kernel
theorem dX6_set_64 : decode cX6_set 64 = .ok (.putfield 115, 3) := by decide +kernel
theorem dX6_set_67 : decode cX6_set 67 = .ok (.goto 5, 3) := by decide +kernel
theorem dX6_set_70 : decode cX6_set 70 = .ok (.iconst 0, 1) := by decide +kernel
theorem dX6_set_71 : decode cX6_set 71 = .ok (.ireturn, 1) := by decide +kernel
theorem dX6_set_72 : decode cX6_set 72 = .ok (.aload_n 0, 1) := by decide +kernel
theorem dX6_set_73 : decode cX6_set 73 = .ok (.getfield 55, 3) := by decide +kernel
theorem dX6_set_76 : decode cX6_set 76 = .ok (.iconst 0, 1) := by decide +kernel
theorem dX6_set_77 : decode cX6_set 77 = .ok (.putfield 118, 3) := by decide +kernel
theorem dX6_set_80 : decode cX6_set 80 = .ok (.iconst 1, 1) := by decide +kernel
theorem dX6_set_81 : decode cX6_set 81 = .ok (.ireturn, 1) := by decide +kernel
theorem dX6_picture_0 : decode cX6_picture 0 = .ok (.iload_n 1, 1) := by decide +kernel
theorem dX6_picture_1 : decode cX6_picture 1 = .ok (.tableswitch 80 0 3 #[31, 39, 47, 64], 31) := by decide +kernel
theorem dX6_picture_32 : decode cX6_picture 32 = .ok (.aload_n 0, 1) := by decide +kernel
theorem dX6_picture_33 : decode cX6_picture 33 = .ok (.getfield 21, 3) := by decide +kernel
theorem dX6_picture_36 : decode cX6_picture 36 = .ok (.getfield 135, 3) := by decide +kernel
theorem dX6_picture_39 : decode cX6_picture 39 = .ok (.ireturn, 1) := by decide +kernel
theorem dX6_picture_40 : decode cX6_picture 40 = .ok (.aload_n 0, 1) := by decide +kernel
theorem dX6_picture_41 : decode cX6_picture 41 = .ok (.getfield 21, 3) := by decide +kernel
theorem dX6_picture_44 : decode cX6_picture 44 = .ok (.getfield 138, 3) := by decide +kernel
theorem dX6_picture_47 : decode cX6_picture 47 = .ok (.ireturn, 1) := by decide +kernel
theorem dX6_picture_48 : decode cX6_picture 48 = .ok (.aload_n 0, 1) := by decide +kernel
theorem dX6_picture_49 : decode cX6_picture 49 = .ok (.getfield 21, 3) := by decide +kernel
theorem dX6_picture_52 : decode cX6_picture 52 = .ok (.getfield 141, 3) := by decide +kernel
theorem dX6_picture_55 : decode cX6_picture 55 = .ok (.iconst (-1), 1) := by decide +kernel
theorem dX6_picture_56 : decode cX6_picture 56 = .ok (.if_icmp .ne 7, 3) := by decide +kernel
theorem dX6_picture_59 : decode cX6_picture 59 = .ok (.iconst 0, 1) := by decide +kernel
theorem dX6_picture_60 : decode cX6_picture 60 = .ok (.goto 4, 3) := by decide +kernel
theorem dX6_picture_63 : decode cX6_picture 63 = .ok (.iconst 1, 1) := by decide +kernel
theorem dX6_picture_64 : decode cX6_picture 64 = .ok (.ireturn, 1) := by decide +kernel
theorem dX6_picture_65 : decode cX6_picture 65 = .ok (.aload_n 0, 1) := by decide +kernel
theorem dX6_picture_66 : decode cX6_picture 66 = .ok (.getfield 21, 3) := by decide +kernel
theorem dX6_picture_69 : decode cX6_picture 69 = .ok (.getfield 144, 3) := by decide +kernel
theorem dX6_picture_72 : decode cX6_picture 72 = .ok (.ifCond .eq 7, 3) := by decide +kernel
theorem dX6_picture_75 : decode cX6_picture 75 = .ok (.iconst 1, 1) := by decide +kernel
theorem dX6_picture_76 : decode cX6_picture 76 = .ok (.goto 4, 3) := by decide +kernel
theorem dX6_picture_79 : decode cX6_picture 79 = .ok (.iconst 0, 1) := by decide +kernel
theorem dX6_picture_80 : decode cX6_picture 80 = .ok (.ireturn, 1) := by decide +kernel
theorem dX6_picture_81 : decode cX6_picture 81 = .ok (.iload_n 1, 1) := by decide +kernel
theorem dX6_picture_82 : decode cX6_picture 82 = .ok (.bipush 8, 2) := by decide +kernel
theorem dX6_picture_84 : decode cX6_picture 84 = .ok (.if_icmp .lt 9, 3) := by decide +kernel
theorem dX6_picture_87 : decode cX6_picture 87 = .ok (.iload_n 1, 1) := by decide +kernel
theorem dX6_picture_88 : decode cX6_picture 88 = .ok (.bipush 15, 2) := by decide +kernel
theorem dX6_picture_90 : decode cX6_picture 90 = .ok (.if_icmp .le 5, 3) := by decide +kernel
theorem dX6_picture_93 : decode cX6_picture 93 = .ok (.iconst (-1), 1) := by decide +kernel
theorem dX6_picture_94 : decode cX6_picture 94 = .ok (.ireturn, 1) := by decide +kernel
theorem dX6_picture_95 : decode cX6_picture 95 = .ok (.aload_n 0, 1) := by decide +kernel
theorem dX6_picture_96 : decode cX6_picture 96 = .ok (.getfield 21, 3) := by decide +kernel
theorem dX6_picture_99 : decode cX6_picture 99 = .ok (.getfield 148, 3) := by decide +kernel
theorem dX6_picture_102 : decode cX6_picture 102 = .ok (.iload_n 1, 1) := by decide +kernel
theorem dX6_picture_103 : decode cX6_picture 103 = .ok (.bipush 8, 2) := by decide +kernel
theorem dX6_picture_105 : decode cX6_picture 105 = .ok (.isub, 1) := by decide +kernel
theorem dX6_picture_106 : decode cX6_picture 106 = .ok (.iaload, 1) := by decide +kernel
theorem dX6_picture_107 : decode cX6_picture 107 = .ok (.ireturn, 1) := by decide +kernel
theorem dX6_vram_0 : decode cX6_vram 0 = .ok (.iload_n 1, 1) := by decide +kernel
theorem dX6_vram_1 : decode cX6_vram 1 = .ok (.ifCond .lt 10, 3) := by decide +kernel
theorem dX6_vram_4 : decode cX6_vram 4 = .ok (.iload_n 1, 1) := by decide +kernel
theorem dX6_vram_5 : decode cX6_vram 5 = .ok (.sipush 16384, 3) := by decide +kernel
theorem dX6_vram_8 : decode cX6_vram 8 = .ok (.if_icmp .lt 13, 3) := by decide +kernel
theorem dX6_vram_11 : decode cX6_vram 11 = .ok (.new 152, 3) := by decide +kernel
theorem dX6_vram_14 : decode cX6_vram 14 = .ok (.dup, 1) := by decide +kernel
theorem dX6_vram_15 : decode cX6_vram 15 = .ok (.ldc 154, 2) := by decide +kernel
theorem dX6_vram_17 : decode cX6_vram 17 = .ok (.invokespecial 156, 3) := by decide +kernel
theorem dX6_vram_20 : decode cX6_vram 20 = .ok (.athrow, 1) := by decide +kernel
theorem dX6_vram_21 : decode cX6_vram 21 = .ok (.aload_n 0, 1) := by decide +kernel
theorem dX6_vram_22 : decode cX6_vram 22 = .ok (.getfield 21, 3) := by decide +kernel
theorem dX6_vram_25 : decode cX6_vram 25 = .ok (.getfield 88, 3) := by decide +kernel
theorem dX6_vram_28 : decode cX6_vram 28 = .ok (.iload_n 1, 1) := by decide +kernel
theorem dX6_vram_29 : decode cX6_vram 29 = .ok (.invokevirtual 74, 3) := by decide +kernel
theorem dX6_vram_32 : decode cX6_vram 32 = .ok (.ireturn, 1) := by decide +kernel
theorem dX6_grom_0 : decode cX6_grom 0 = .ok (.iload_n 1, 1) := by decide +kernel
theorem dX6_grom_1 : decode cX6_grom 1 = .ok (.tableswitch 59 0 2 #[27, 35, 43], 27) := by decide +kernel
theorem dX6_grom_28 : decode cX6_grom 28 = .ok (.aload_n 0, 1) := by decide +kernel
theorem dX6_grom_29 : decode cX6_grom 29 = .ok (.getfield 28, 3) := by decide +kernel
theorem dX6_grom_32 : decode cX6_grom 32 = .ok (.getfield 157, 3) := by decide +kernel
theorem dX6_grom_35 : decode cX6_grom 35 = .ok (.ireturn, 1) := by decide +kernel
theorem dX6_grom_36 : decode cX6_grom 36 = .ok (.aload_n 0, 1) := by decide +kernel
theorem dX6_grom_37 : decode cX6_grom 37 = .ok (.getfield 28, 3) := by decide +kernel
theorem dX6_grom_40 : decode cX6_grom 40 = .ok (.getfield 158, 3) := by decide +kernel
theorem dX6_grom_43 : decode cX6_grom 43 = .ok (.ireturn, 1) := by decide +kernel
theorem dX6_grom_44 : decode cX6_grom 44 = .ok (.aload_n 0, 1) := by decide +kernel
theorem dX6_grom_45 : decode cX6_grom 45 = .ok (.getfield 28, 3) := by decide +kernel
theorem dX6_grom_48 : decode cX6_grom 48 = .ok (.getfield 159, 3) := by decide +kernel
theorem dX6_grom_51 : decode cX6_grom 51 = .ok (.ifCond .eq 7, 3) := by decide +kernel
theorem dX6_grom_54 : decode cX6_grom 54 = .ok (.iconst 1, 1) := by decide +kernel
theorem dX6_grom_55 : decode cX6_grom 55 = .ok (.goto 4, 3) := by decide +kernel
theorem dX6_grom_58 : decode cX6_grom 58 = .ok (.iconst 0, 1) := by decide +kernel
theorem dX6_grom_59 : decode cX6_grom 59 = .ok (.ireturn, 1) := by decide +kernel
theorem dX6_grom_60 : decode cX6_grom 60 = .ok (.iconst (-1), 1) := by decide +kernel
theorem dX6_grom_61 : decode cX6_grom 61 = .ok (.ireturn, 1) := by decide +kernel
theorem dX6_frame_0 : decode cX6_frame 0 = .ok (.aload_n 0, 1) := by decide +kernel
theorem dX6_frame_1 : decode cX6_frame 1 = .ok (.getfield 21, 3) := by decide +kernel
theorem dX6_frame_4 : decode cX6_frame 4 = .ok (.iconst 1, 1) := by decide +kernel
theorem dX6_frame_5 : decode cX6_frame 5 = .ok (.putfield 144, 3) := by decide +kernel
theorem dX6_frame_8 : decode cX6_frame 8 = .ok (.return_, 1) := by decide +kernel
theorem dX6_interrupt_0 : decode cX6_interrupt 0 = .ok (.iload_n 1, 1) := by decide +kernel
theorem dX6_interrupt_1 : decode cX6_interrupt 1 = .ok (.iconst 2, 1) := by decide +kernel
theorem dX6_interrupt_2 : decode cX6_interrupt 2 = .ok (.if_icmp .lt 9, 3) := by decide +kernel
theorem dX6_interrupt_5 : decode cX6_interrupt 5 = .ok (.iload_n 1, 1) := by decide +kernel
theorem dX6_interrupt_6 : decode cX6_interrupt 6 = .ok (.bipush 15, 2) := by decide +kernel
theorem dX6_interrupt_8 : decode cX6_interrupt 8 = .ok (.if_icmp .le 5, 3) := by decide +kernel
theorem dX6_interrupt_11 : decode cX6_interrupt 11 = .ok (.iconst 0, 1) := by decide +kernel
theorem dX6_interrupt_12 : decode cX6_interrupt 12 = .ok (.ireturn, 1) := by decide +kernel
theorem dX6_interrupt_13 : decode cX6_interrupt 13 = .ok (.aload_n 0, 1) := by decide +kernel
theorem dX6_interrupt_14 : decode cX6_interrupt 14 = .ok (.getfield 55, 3) := by decide +kernel
theorem dX6_interrupt_17 : decode cX6_interrupt 17 = .ok (.dup, 1) := by decide +kernel
theorem dX6_interrupt_18 : decode cX6_interrupt 18 = .ok (.getfield 162, 3) := by decide +kernel
theorem dX6_interrupt_21 : decode cX6_interrupt 21 = .ok (.iconst 1, 1) := by decide +kernel
theorem dX6_interrupt_22 : decode cX6_interrupt 22 = .ok (.iload_n 1, 1) := by decide +kernel
theorem dX6_interrupt_23 : decode cX6_interrupt 23 = .ok (.ishl, 1) := by decide +kernel
theorem dX6_interrupt_24 : decode cX6_interrupt 24 = .ok (.ior, 1) := by decide +kernel
theorem dX6_interrupt_25 : decode cX6_interrupt 25 = .ok (.putfield 162, 3) := by decide +kernel
theorem dX6_interrupt_28 : decode cX6_interrupt 28 = .ok (.iconst 1, 1) := by decide +kernel
theorem dX6_interrupt_29 : decode cX6_interrupt 29 = .ok (.ireturn, 1) := by decide +kernel
theorem dX6_key_0 : decode cX6_key 0 = .ok (.iload_n 1, 1) := by decide +kernel
theorem dX6_key_1 : decode cX6_key 1 = .ok (.ifCond .lt 19, 3) := by decide +kernel
theorem dX6_key_4 : decode cX6_key 4 = .ok (.iload_n 1, 1) := by decide +kernel
theorem dX6_key_5 : decode cX6_key 5 = .ok (.bipush 7, 2) := by decide +kernel
theorem dX6_key_7 : decode cX6_key 7 = .ok (.if_icmp .gt 13, 3) := by decide +kernel
theorem dX6_key_10 : decode cX6_key 10 = .ok (.iload_n 2, 1) := by decide +kernel
theorem dX6_key_11 : decode cX6_key 11 = .ok (.ifCond .lt 9, 3) := by decide +kernel
theorem dX6_key_14 : decode cX6_key 14 = .ok (.iload_n 2, 1) := by decide +kernel
theorem dX6_key_15 : decode cX6_key 15 = .ok (.bipush 7, 2) := by decide +kernel
theorem dX6_key_17 : decode cX6_key 17 = .ok (.if_icmp .le 5, 3) := by decide +kernel
theorem dX6_key_20 : decode cX6_key 20 = .ok (.iconst 0, 1) := by decide +kernel
theorem dX6_key_21 : decode cX6_key 21 = .ok (.ireturn, 1) := by decide +kernel
theorem dX6_key_22 : decode cX6_key 22 = .ok (.aload_n 0, 1) := by decide +kernel
theorem dX6_key_23 : decode cX6_key 23 = .ok (.getfield 37, 3) := by decide +kernel
theorem dX6_key_26 : decode cX6_key 26 = .ok (.iload_n 1, 1) := by decide +kernel
theorem dX6_key_27 : decode cX6_key 27 = .ok (.iload_n 2, 1) := by decide +kernel
theorem dX6_key_28 : decode cX6_key 28 = .ok (.iload_n 3, 1) := by decide +kernel
theorem dX6_key_29 : decode cX6_key 29 = .ok (.invokevirtual 165, 3) := by decide +kernel
theorem dX6_key_32 : decode cX6_key 32 = .ok (.iconst 1, 1) := by decide +kernel
theorem dX6_key_33 : decode cX6_key 33 = .ok (.ireturn, 1) := by decide +kernel
theorem dX6_out_0 : decode cX6_out 0 = .ok (.iload_n 1, 1) := by decide +kernel
theorem dX6_out_1 : decode cX6_out 1 = .ok (.invokestatic 169, 3) := by decide +kernel
theorem dX6_out_4 : decode cX6_out 4 = .ok (.ifCond .eq 14, 3) := by decide +kernel
theorem dX6_out_7 : decode cX6_out 7 = .ok (.aload_n 0, 1) := by decide +kernel
theorem dX6_out_8 : decode cX6_out 8 = .ok (.getfield 37, 3) := by decide +kernel
theorem dX6_out_11 : decode cX6_out 11 = .ok (.iload_n 1, 1) := by decide +kernel
theorem dX6_out_12 : decode cX6_out 12 = .ok (.invokevirtual 173, 3) := by decide +kernel
theorem dX6_out_15 : decode cX6_out 15 = .ok (.goto 4, 3) := by decide +kernel
theorem dX6_out_18 : decode cX6_out 18 = .ok (.iconst (-1), 1) := by decide +kernel
theorem dX6_out_19 : decode cX6_out 19 = .ok (.ireturn, 1) := by decide +kernel
theorem dX6_in_0 : decode cX6_in 0 = .ok (.iload_n 1, 1) := by decide +kernel
theorem dX6_in_1 : decode cX6_in 1 = .ok (.invokestatic 169, 3) := by decide +kernel
theorem dX6_in_4 : decode cX6_in 4 = .ok (.ifCond .eq 14, 3) := by decide +kernel
theorem dX6_in_7 : decode cX6_in 7 = .ok (.aload_n 0, 1) := by decide +kernel
theorem dX6_in_8 : decode cX6_in 8 = .ok (.getfield 37, 3) := by decide +kernel
theorem dX6_in_11 : decode cX6_in 11 = .ok (.iload_n 1, 1) := by decide +kernel
theorem dX6_in_12 : decode cX6_in 12 = .ok (.invokevirtual 176, 3) := by decide +kernel
theorem dX6_in_15 : decode cX6_in 15 = .ok (.goto 4, 3) := by decide +kernel
theorem dX6_in_18 : decode cX6_in 18 = .ok (.iconst (-1), 1) := by decide +kernel
theorem dX6_in_19 : decode cX6_in 19 = .ok (.ireturn, 1) := by decide +kernel
theorem dX6_pixel_0 : decode cX6_pixel 0 = .ok (.iload_n 1, 1) := by decide +kernel
theorem dX6_pixel_1 : decode cX6_pixel 1 = .ok (.ifCond .lt 21, 3) := by decide +kernel
theorem dX6_pixel_4 : decode cX6_pixel 4 = .ok (.iload_n 1, 1) := by decide +kernel
theorem dX6_pixel_5 : decode cX6_pixel 5 = .ok (.sipush 255, 3) := by decide +kernel
theorem dX6_pixel_8 : decode cX6_pixel 8 = .ok (.if_icmp .gt 14, 3) := by decide +kernel
theorem dX6_pixel_11 : decode cX6_pixel 11 = .ok (.iload_n 2, 1) := by decide +kernel
theorem dX6_pixel_12 : decode cX6_pixel 12 = .ok (.ifCond .lt 10, 3) := by decide +kernel
theorem dX6_pixel_15 : decode cX6_pixel 15 = .ok (.iload_n 2, 1) := by decide +kernel
theorem dX6_pixel_16 : decode cX6_pixel 16 = .ok (.sipush 191, 3) := by decide +kernel
theorem dX6_pixel_19 : decode cX6_pixel 19 = .ok (.if_icmp .le 5, 3) := by decide +kernel
theorem dX6_pixel_22 : decode cX6_pixel 22 = .ok (.iconst (-1), 1) := by decide +kernel
theorem dX6_pixel_23 : decode cX6_pixel 23 = .ok (.ireturn, 1) := by decide +kernel
theorem dX6_pixel_24 : decode cX6_pixel 24 = .ok (.aload_n 0, 1) := by decide +kernel
theorem dX6_pixel_25 : decode cX6_pixel 25 = .ok (.getfield 21, 3) := by decide +kernel
theorem dX6_pixel_28 : decode cX6_pixel 28 = .ok (.iload_n 1, 1) := by decide +kernel
theorem dX6_pixel_29 : decode cX6_pixel 29 = .ok (.iload_n 2, 1) := by decide +kernel
theorem dX6_pixel_30 : decode cX6_pixel 30 = .ok (.invokevirtual 179, 3) := by decide +kernel
theorem dX6_pixel_33 : decode cX6_pixel 33 = .ok (.ireturn, 1) := by decide +kernel
theorem dX7_init_0 : decode cX7_init 0 = .ok (.aload_n 0, 1) := by decide +kernel
theorem dX7_init_1 : decode cX7_init 1 = .ok (.invokespecial 1, 3) := by decide +kernel
theorem dX7_init_4 : decode cX7_init 4 = .ok (.aload_n 0, 1) := by decide +kernel
theorem dX7_init_5 : decode cX7_init 5 = .ok (.sipush 8192, 3) := by decide +kernel
theorem dX7_init_8 : decode cX7_init 8 = .ok (.newarray .byte, 2) := by decide +kernel
theorem dX7_init_10 : decode cX7_init 10 = .ok (.putfield 7, 3) := by decide +kernel
theorem dX7_init_13 : decode cX7_init 13 = .ok (.aload_n 0, 1) := by decide +kernel
theorem dX7_init_14 : decode cX7_init 14 = .ok (.ldc 13, 2) := by decide +kernel
