theorem dX7_commands_43 : decode cX7_commands 43 = .ok (.iastore, 1) := by decide +kernel
theorem dX7_commands_44 : decode cX7_commands 44 = .ok (.return_, 1) := by decide +kernel
theorem dX7_commands_45 : decode cX7_commands 45 = .ok (.aload_n 0, 1) := by decide +kernel
theorem dX7_commands_46 : decode cX7_commands 46 = .ok (.iload_n 1, 1) := by decide +kernel
theorem dX7_commands_47 : decode cX7_commands 47 = .ok (.bipush 64, 2) := by decide +kernel
theorem dX7_commands_49 : decode cX7_commands 49 = .ok (.irem, 1) := by decide +kernel
theorem dX7_commands_50 : decode cX7_commands 50 = .ok (.sipush 256, 3) := by decide +kernel
theorem dX7_commands_53 : decode cX7_commands 53 = .ok (.imul, 1) := by decide +kernel
theorem dX7_commands_54 : decode cX7_commands 54 = .ok (.aload_n 0, 1) := by decide +kernel
theorem dX7_commands_55 : decode cX7_commands 55 = .ok (.getfield 112, 3) := by decide +kernel
theorem dX7_commands_58 : decode cX7_commands 58 = .ok (.iadd, 1) := by decide +kernel
theorem dX7_commands_59 : decode cX7_commands 59 = .ok (.putfield 80, 3) := by decide +kernel
theorem dX7_commands_62 : decode cX7_commands 62 = .ok (.iload_n 1, 1) := by decide +kernel
theorem dX7_commands_63 : decode cX7_commands 63 = .ok (.bipush 64, 2) := by decide +kernel
theorem dX7_commands_65 : decode cX7_commands 65 = .ok (.idiv, 1) := by decide +kernel
theorem dX7_commands_66 : decode cX7_commands 66 = .ok (.ifCond .ne 7, 3) := by decide +kernel
theorem dX7_commands_69 : decode cX7_commands 69 = .ok (.aload_n 0, 1) := by decide +kernel
theorem dX7_commands_70 : decode cX7_commands 70 = .ok (.invokevirtual 92, 3) := by decide +kernel
theorem dX7_commands_73 : decode cX7_commands 73 = .ok (.return_, 1) := by decide +kernel
theorem dX7_inOf_0 : decode cX7_inOf 0 = .ok (.iload_n 1, 1) := by decide +kernel
theorem dX7_inOf_1 : decode cX7_inOf 1 = .ok (.iconst 2, 1) := by decide +kernel
theorem dX7_inOf_2 : decode cX7_inOf 2 = .ok (.if_icmp .ne 16, 3) := by decide +kernel
theorem dX7_inOf_5 : decode cX7_inOf 5 = .ok (.aload_n 0, 1) := by decide +kernel
theorem dX7_inOf_6 : decode cX7_inOf 6 = .ok (.getfield 99, 3) := by decide +kernel
theorem dX7_inOf_9 : decode cX7_inOf 9 = .ok (.ifCond .eq 7, 3) := by decide +kernel
theorem dX7_inOf_12 : decode cX7_inOf 12 = .ok (.iconst 0, 1) := by decide +kernel
theorem dX7_inOf_13 : decode cX7_inOf 13 = .ok (.goto 4, 3) := by decide +kernel
theorem dX7_inOf_16 : decode cX7_inOf 16 = .ok (.iconst 1, 1) := by decide +kernel
theorem dX7_inOf_17 : decode cX7_inOf 17 = .ok (.ireturn, 1) := by decide +kernel
theorem dX7_inOf_18 : decode cX7_inOf 18 = .ok (.iload_n 1, 1) := by decide +kernel
theorem dX7_inOf_19 : decode cX7_inOf 19 = .ok (.iconst 3, 1) := by decide +kernel
theorem dX7_inOf_20 : decode cX7_inOf 20 = .ok (.bipush 10, 2) := by decide +kernel
theorem dX7_inOf_22 : decode cX7_inOf 22 = .ok (.invokestatic 47, 3) := by decide +kernel
theorem dX7_inOf_25 : decode cX7_inOf 25 = .ok (.ifCond .eq 73, 3) := by decide +kernel
theorem dX7_inOf_28 : decode cX7_inOf 28 = .ok (.aload_n 0, 1) := by decide +kernel
theorem dX7_inOf_29 : decode cX7_inOf 29 = .ok (.getfield 27, 3) := by decide +kernel
theorem dX7_inOf_32 : decode cX7_inOf 32 = .ok (.bipush 18, 2) := by decide +kernel
theorem dX7_inOf_34 : decode cX7_inOf 34 = .ok (.baload, 1) := by decide +kernel
theorem dX7_inOf_35 : decode cX7_inOf 35 = .ok (.ifCond .eq 7, 3) := by decide +kernel
theorem dX7_inOf_38 : decode cX7_inOf 38 = .ok (.iconst 1, 1) := by decide +kernel
theorem dX7_inOf_39 : decode cX7_inOf 39 = .ok (.goto 4, 3) := by decide +kernel
theorem dX7_inOf_42 : decode cX7_inOf 42 = .ok (.iconst 0, 1) := by decide +kernel
theorem dX7_inOf_43 : decode cX7_inOf 43 = .ok (.aload_n 0, 1) := by decide +kernel
theorem dX7_inOf_44 : decode cX7_inOf 44 = .ok (.getfield 27, 3) := by decide +kernel
theorem dX7_inOf_47 : decode cX7_inOf 47 = .ok (.bipush 19, 2) := by decide +kernel
theorem dX7_inOf_49 : decode cX7_inOf 49 = .ok (.baload, 1) := by decide +kernel
theorem dX7_inOf_50 : decode cX7_inOf 50 = .ok (.ifCond .eq 7, 3) := by decide +kernel
theorem dX7_inOf_53 : decode cX7_inOf 53 = .ok (.iconst 2, 1) := by decide +kernel
theorem dX7_inOf_54 : decode cX7_inOf 54 = .ok (.goto 4, 3) := by decide +kernel
theorem dX7_inOf_57 : decode cX7_inOf 57 = .ok (.iconst 0, 1) := by decide +kernel
theorem dX7_inOf_58 : decode cX7_inOf 58 = .ok (.iadd, 1) := by decide +kernel
theorem dX7_inOf_59 : decode cX7_inOf 59 = .ok (.aload_n 0, 1) := by decide +kernel
theorem dX7_inOf_60 : decode cX7_inOf 60 = .ok (.getfield 27, 3) := by decide +kernel
theorem dX7_inOf_63 : decode cX7_inOf 63 = .ok (.bipush 20, 2) := by decide +kernel
theorem dX7_inOf_65 : decode cX7_inOf 65 = .ok (.baload, 1) := by decide +kernel
theorem dX7_inOf_66 : decode cX7_inOf 66 = .ok (.ifCond .eq 7, 3) := by decide +kernel
theorem dX7_inOf_69 : decode cX7_inOf 69 = .ok (.iconst 4, 1) := by decide +kernel
theorem dX7_inOf_70 : decode cX7_inOf 70 = .ok (.goto 4, 3) := by decide +kernel
theorem dX7_inOf_73 : decode cX7_inOf 73 = .ok (.iconst 0, 1) := by decide +kernel
theorem dX7_inOf_74 : decode cX7_inOf 74 = .ok (.iadd, 1) := by decide +kernel
theorem dX7_inOf_75 : decode cX7_inOf 75 = .ok (.istore_n 2, 1) := by decide +kernel
theorem dX7_inOf_76 : decode cX7_inOf 76 = .ok (.aload_n 0, 1) := by decide +kernel
theorem dX7_inOf_77 : decode cX7_inOf 77 = .ok (.getfield 31, 3) := by decide +kernel
theorem dX7_inOf_80 : decode cX7_inOf 80 = .ok (.bipush 8, 2) := by decide +kernel
theorem dX7_inOf_82 : decode cX7_inOf 82 = .ok (.iload_n 2, 1) := by decide +kernel
theorem dX7_inOf_83 : decode cX7_inOf 83 = .ok (.imul, 1) := by decide +kernel
theorem dX7_inOf_84 : decode cX7_inOf 84 = .ok (.iload_n 1, 1) := by decide +kernel
theorem dX7_inOf_85 : decode cX7_inOf 85 = .ok (.iadd, 1) := by decide +kernel
theorem dX7_inOf_86 : decode cX7_inOf 86 = .ok (.iconst 3, 1) := by decide +kernel
theorem dX7_inOf_87 : decode cX7_inOf 87 = .ok (.isub, 1) := by decide +kernel
theorem dX7_inOf_88 : decode cX7_inOf 88 = .ok (.baload, 1) := by decide +kernel
theorem dX7_inOf_89 : decode cX7_inOf 89 = .ok (.ifCond .eq 7, 3) := by decide +kernel
theorem dX7_inOf_92 : decode cX7_inOf 92 = .ok (.iconst 0, 1) := by decide +kernel
theorem dX7_inOf_93 : decode cX7_inOf 93 = .ok (.goto 4, 3) := by decide +kernel
theorem dX7_inOf_96 : decode cX7_inOf 96 = .ok (.iconst 1, 1) := by decide +kernel
theorem dX7_inOf_97 : decode cX7_inOf 97 = .ok (.ireturn, 1) := by decide +kernel
theorem dX7_inOf_98 : decode cX7_inOf 98 = .ok (.aload_n 0, 1) := by decide +kernel
theorem dX7_inOf_99 : decode cX7_inOf 99 = .ok (.getfield 27, 3) := by decide +kernel
theorem dX7_inOf_102 : decode cX7_inOf 102 = .ok (.iload_n 1, 1) := by decide +kernel
theorem dX7_inOf_103 : decode cX7_inOf 103 = .ok (.baload, 1) := by decide +kernel
theorem dX7_inOf_104 : decode cX7_inOf 104 = .ok (.ifCond .eq 7, 3) := by decide +kernel
theorem dX7_inOf_107 : decode cX7_inOf 107 = .ok (.iconst 1, 1) := by decide +kernel
theorem dX7_inOf_108 : decode cX7_inOf 108 = .ok (.goto 4, 3) := by decide +kernel
theorem dX7_inOf_111 : decode cX7_inOf 111 = .ok (.iconst 0, 1) := by decide +kernel
theorem dX7_inOf_112 : decode cX7_inOf 112 = .ok (.ireturn, 1) := by decide +kernel
theorem dX7_registerAt_0 : decode cX7_registerAt 0 = .ok (.aload_n 0, 1) := by decide +kernel
theorem dX7_registerAt_1 : decode cX7_registerAt 1 = .ok (.getfield 115, 3) := by decide +kernel
theorem dX7_registerAt_4 : decode cX7_registerAt 4 = .ok (.iconst 2, 1) := by decide +kernel
theorem dX7_registerAt_5 : decode cX7_registerAt 5 = .ok (.iload_n 1, 1) := by decide +kernel
theorem dX7_registerAt_6 : decode cX7_registerAt 6 = .ok (.imul, 1) := by decide +kernel
theorem dX7_registerAt_7 : decode cX7_registerAt 7 = .ok (.iadd, 1) := by decide +kernel
theorem dX7_registerAt_8 : decode cX7_registerAt 8 = .ok (.ldc 118, 2) := by decide +kernel
theorem dX7_registerAt_10 : decode cX7_registerAt 10 = .ok (.iand, 1) := by decide +kernel
theorem dX7_registerAt_11 : decode cX7_registerAt 11 = .ok (.ireturn, 1) := by decide +kernel
theorem dX7_register_0 : decode cX7_register 0 = .ok (.aload_n 0, 1) := by decide +kernel
theorem dX7_register_1 : decode cX7_register 1 = .ok (.aload_n 0, 1) := by decide +kernel
theorem dX7_register_2 : decode cX7_register 2 = .ok (.iload_n 1, 1) := by decide +kernel
theorem dX7_register_3 : decode cX7_register 3 = .ok (.invokevirtual 119, 3) := by decide +kernel
theorem dX7_register_6 : decode cX7_register 6 = .ok (.invokevirtual 122, 3) := by decide +kernel
theorem dX7_register_9 : decode cX7_register 9 = .ok (.ireturn, 1) := by decide +kernel
theorem dX7_register__0 : decode cX7_register_ 0 = .ok (.aload_n 0, 1) := by decide +kernel
theorem dX7_register__1 : decode cX7_register_ 1 = .ok (.aload_n 0, 1) := by decide +kernel
theorem dX7_register__2 : decode cX7_register_ 2 = .ok (.iload_n 1, 1) := by decide +kernel
theorem dX7_register__3 : decode cX7_register_ 3 = .ok (.invokevirtual 119, 3) := by decide +kernel
theorem dX7_register__6 : decode cX7_register_ 6 = .ok (.iload_n 2, 1) := by decide +kernel
theorem dX7_register__7 : decode cX7_register_ 7 = .ok (.invokevirtual 125, 3) := by decide +kernel
theorem dX7_register__10 : decode cX7_register_ 10 = .ok (.return_, 1) := by decide +kernel
theorem dX7_nextWord_0 : decode cX7_nextWord 0 = .ok (.aload_n 0, 1) := by decide +kernel
theorem dX7_nextWord_1 : decode cX7_nextWord 1 = .ok (.aload_n 0, 1) := by decide +kernel
theorem dX7_nextWord_2 : decode cX7_nextWord 2 = .ok (.getfield 128, 3) := by decide +kernel
theorem dX7_nextWord_5 : decode cX7_nextWord 5 = .ok (.invokevirtual 122, 3) := by decide +kernel
theorem dX7_nextWord_8 : decode cX7_nextWord 8 = .ok (.istore_n 1, 1) := by decide +kernel
theorem dX7_nextWord_9 : decode cX7_nextWord 9 = .ok (.aload_n 0, 1) := by decide +kernel
theorem dX7_nextWord_10 : decode cX7_nextWord 10 = .ok (.aload_n 0, 1) := by decide +kernel
theorem dX7_nextWord_11 : decode cX7_nextWord 11 = .ok (.getfield 128, 3) := by decide +kernel
theorem dX7_nextWord_14 : decode cX7_nextWord 14 = .ok (.iconst 2, 1) := by decide +kernel
theorem dX7_nextWord_15 : decode cX7_nextWord 15 = .ok (.iadd, 1) := by decide +kernel
theorem dX7_nextWord_16 : decode cX7_nextWord 16 = .ok (.ldc 72, 2) := by decide +kernel
theorem dX7_nextWord_18 : decode cX7_nextWord 18 = .ok (.iand, 1) := by decide +kernel
theorem dX7_nextWord_19 : decode cX7_nextWord 19 = .ok (.putfield 128, 3) := by decide +kernel
theorem dX7_nextWord_22 : decode cX7_nextWord 22 = .ok (.iload_n 1, 1) := by decide +kernel
theorem dX7_nextWord_23 : decode cX7_nextWord 23 = .ok (.ireturn, 1) := by decide +kernel
theorem dX7_flag_0 : decode cX7_flag 0 = .ok (.aload_n 0, 1) := by decide +kernel
theorem dX7_flag_1 : decode cX7_flag 1 = .ok (.iload_n 2, 1) := by decide +kernel
theorem dX7_flag_2 : decode cX7_flag 2 = .ok (.ifCond .eq 12, 3) := by decide +kernel
theorem dX7_flag_5 : decode cX7_flag 5 = .ok (.aload_n 0, 1) := by decide +kernel
theorem dX7_flag_6 : decode cX7_flag 6 = .ok (.getfield 131, 3) := by decide +kernel
theorem dX7_flag_9 : decode cX7_flag 9 = .ok (.iload_n 1, 1) := by decide +kernel
theorem dX7_flag_10 : decode cX7_flag 10 = .ok (.ior, 1) := by decide +kernel
theorem dX7_flag_11 : decode cX7_flag 11 = .ok (.goto 11, 3) := by decide +kernel
theorem dX7_flag_14 : decode cX7_flag 14 = .ok (.aload_n 0, 1) := by decide +kernel
theorem dX7_flag_15 : decode cX7_flag 15 = .ok (.getfield 131, 3) := by decide +kernel
theorem dX7_flag_18 : decode cX7_flag 18 = .ok (.iload_n 1, 1) := by decide +kernel
theorem dX7_flag_19 : decode cX7_flag 19 = .ok (.iconst (-1), 1) := by decide +kernel
theorem dX7_flag_20 : decode cX7_flag 20 = .ok (.ixor, 1) := by decide +kernel
theorem dX7_flag_21 : decode cX7_flag 21 = .ok (.iand, 1) := by decide +kernel
theorem dX7_flag_22 : decode cX7_flag 22 = .ok (.putfield 131, 3) := by decide +kernel
theorem dX7_flag_25 : decode cX7_flag 25 = .ok (.return_, 1) := by decide +kernel
theorem dX7_has_0 : decode cX7_has 0 = .ok (.aload_n 0, 1) := by decide +kernel
theorem dX7_has_1 : decode cX7_has 1 = .ok (.getfield 131, 3) := by decide +kernel
theorem dX7_has_4 : decode cX7_has 4 = .ok (.iload_n 1, 1) := by decide +kernel
theorem dX7_has_5 : decode cX7_has 5 = .ok (.iand, 1) := by decide +kernel
theorem dX7_has_6 : decode cX7_has 6 = .ok (.ifCond .eq 7, 3) := by decide +kernel
theorem dX7_has_9 : decode cX7_has 9 = .ok (.iconst 1, 1) := by decide +kernel
theorem dX7_has_10 : decode cX7_has 10 = .ok (.goto 4, 3) := by decide +kernel
theorem dX7_has_13 : decode cX7_has 13 = .ok (.iconst 0, 1) := by decide +kernel
theorem dX7_has_14 : decode cX7_has 14 = .ok (.ireturn, 1) := by decide +kernel
theorem dX7_signed_0 : decode cX7_signed 0 = .ok (.iload_n 1, 1) := by decide +kernel
theorem dX7_signed_1 : decode cX7_signed 1 = .ok (.ifCond .eq 8, 3) := by decide +kernel
theorem dX7_signed_4 : decode cX7_signed 4 = .ok (.iload_n 0, 1) := by decide +kernel
theorem dX7_signed_5 : decode cX7_signed 5 = .ok (.i2b, 1) := by decide +kernel
theorem dX7_signed_6 : decode cX7_signed 6 = .ok (.goto 5, 3) := by decide +kernel
theorem dX7_signed_9 : decode cX7_signed 9 = .ok (.iload_n 0, 1) := by decide +kernel
theorem dX7_signed_10 : decode cX7_signed 10 = .ok (.i2s, 1) := by decide +kernel
theorem dX7_signed_11 : decode cX7_signed 11 = .ok (.ireturn, 1) := by decide +kernel
theorem dX7_compare_0 : decode cX7_compare 0 = .ok (.aload_n 0, 1) := by decide +kernel
theorem dX7_compare_1 : decode cX7_compare 1 = .ok (.ldc 52, 2) := by decide +kernel
theorem dX7_compare_3 : decode cX7_compare 3 = .ok (.iload_n 1, 1) := by decide +kernel
theorem dX7_compare_4 : decode cX7_compare 4 = .ok (.iload_n 2, 1) := by decide +kernel
theorem dX7_compare_5 : decode cX7_compare 5 = .ok (.if_icmp .le 7, 3) := by decide +kernel
theorem dX7_compare_8 : decode cX7_compare 8 = .ok (.iconst 1, 1) := by decide +kernel
theorem dX7_compare_9 : decode cX7_compare 9 = .ok (.goto 4, 3) := by decide +kernel
theorem dX7_compare_12 : decode cX7_compare 12 = .ok (.iconst 0, 1) := by decide +kernel
theorem dX7_compare_13 : decode cX7_compare 13 = .ok (.invokevirtual 134, 3) := by decide +kernel
theorem dX7_compare_16 : decode cX7_compare 16 = .ok (.aload_n 0, 1) := by decide +kernel
theorem dX7_compare_17 : decode cX7_compare 17 = .ok (.sipush 16384, 3) := by decide +kernel
theorem dX7_compare_20 : decode cX7_compare 20 = .ok (.iload_n 1, 1) := by decide +kernel
theorem dX7_compare_21 : decode cX7_compare 21 = .ok (.iload_n 3, 1) := by decide +kernel
theorem dX7_compare_22 : decode cX7_compare 22 = .ok (.invokestatic 138, 3) := by decide +kernel
theorem dX7_compare_25 : decode cX7_compare 25 = .ok (.iload_n 2, 1) := by decide +kernel
theorem dX7_compare_26 : decode cX7_compare 26 = .ok (.iload_n 3, 1) := by decide +kernel
theorem dX7_compare_27 : decode cX7_compare 27 = .ok (.invokestatic 138, 3) := by decide +kernel
theorem dX7_compare_30 : decode cX7_compare 30 = .ok (.if_icmp .le 7, 3) := by decide +kernel
theorem dX7_compare_33 : decode cX7_compare 33 = .ok (.iconst 1, 1) := by decide +kernel
theorem dX7_compare_34 : decode cX7_compare 34 = .ok (.goto 4, 3) := by decide +kernel
theorem dX7_compare_37 : decode cX7_compare 37 = .ok (.iconst 0, 1) := by decide +kernel
theorem dX7_compare_38 : decode cX7_compare 38 = .ok (.invokevirtual 134, 3) := by decide +kernel
theorem dX7_compare_41 : decode cX7_compare 41 = .ok (.aload_n 0, 1) := by decide +kernel
theorem dX7_compare_42 : decode cX7_compare 42 = .ok (.sipush 8192, 3) := by decide +kernel
theorem dX7_compare_45 : decode cX7_compare 45 = .ok (.iload_n 1, 1) := by decide +kernel
theorem dX7_compare_46 : decode cX7_compare 46 = .ok (.iload_n 2, 1) := by decide +kernel
theorem dX7_compare_47 : decode cX7_compare 47 = .ok (.if_icmp .ne 7, 3) := by decide +kernel
theorem dX7_compare_50 : decode cX7_compare 50 = .ok (.iconst 1, 1) := by decide +kernel
theorem dX7_compare_51 : decode cX7_compare 51 = .ok (.goto 4, 3) := by decide +kernel
theorem dX7_compare_54 : decode cX7_compare 54 = .ok (.iconst 0, 1) := by decide +kernel
theorem dX7_compare_55 : decode cX7_compare 55 = .ok (.invokevirtual 134, 3) := by decide +kernel
theorem dX7_compare_58 : decode cX7_compare 58 = .ok (.return_, 1) := by decide +kernel
theorem dX7_odd_0 : decode cX7_odd 0 = .ok (.iconst 0, 1) := by decide +kernel
theorem dX7_odd_1 : decode cX7_odd 1 = .ok (.istore_n 2, 1) := by decide +kernel
theorem dX7_odd_2 : decode cX7_odd 2 = .ok (.iconst 0, 1) := by decide +kernel
theorem dX7_odd_3 : decode cX7_odd 3 = .ok (.istore_n 3, 1) := by decide +kernel
theorem dX7_odd_4 : decode cX7_odd 4 = .ok (.iload_n 3, 1) := by decide +kernel
theorem dX7_odd_5 : decode cX7_odd 5 = .ok (.bipush 8, 2) := by decide +kernel
theorem dX7_odd_7 : decode cX7_odd 7 = .ok (.if_icmp .ge 17, 3) := by decide +kernel
theorem dX7_odd_10 : decode cX7_odd 10 = .ok (.iload_n 2, 1) := by decide +kernel
theorem dX7_odd_11 : decode cX7_odd 11 = .ok (.iload_n 1, 1) := by decide +kernel
theorem dX7_odd_12 : decode cX7_odd 12 = .ok (.iload_n 3, 1) := by decide +kernel
theorem dX7_odd_13 : decode cX7_odd 13 = .ok (.ishr, 1) := by decide +kernel
theorem dX7_odd_14 : decode cX7_odd 14 = .ok (.iconst 1, 1) := by decide +kernel
theorem dX7_odd_15 : decode cX7_odd 15 = .ok (.iand, 1) := by decide +kernel
theorem dX7_odd_16 : decode cX7_odd 16 = .ok (.iadd, 1) := by decide +kernel
theorem dX7_odd_17 : decode cX7_odd 17 = .ok (.istore_n 2, 1) := by decide +kernel
theorem dX7_odd_18 : decode cX7_odd 18 = .ok (.iinc 3 1, 3) := by decide +kernel
theorem dX7_odd_21 : decode cX7_odd 21 = .ok (.goto (-17), 3) := by decide +kernel
theorem dX7_odd_24 : decode cX7_odd 24 = .ok (.aload_n 0, 1) := by decide +kernel
theorem dX7_odd_25 : decode cX7_odd 25 = .ok (.sipush 1024, 3) := by decide +kernel
theorem dX7_odd_28 : decode cX7_odd 28 = .ok (.iload_n 2, 1) := by decide +kernel
theorem dX7_odd_29 : decode cX7_odd 29 = .ok (.iconst 2, 1) := by decide +kernel
theorem dX7_odd_30 : decode cX7_odd 30 = .ok (.irem, 1) := by decide +kernel
theorem dX7_odd_31 : decode cX7_odd 31 = .ok (.iconst 1, 1) := by decide +kernel
theorem dX7_odd_32 : decode cX7_odd 32 = .ok (.if_icmp .ne 7, 3) := by decide +kernel
theorem dX7_odd_35 : decode cX7_odd 35 = .ok (.iconst 1, 1) := by decide +kernel
theorem dX7_odd_36 : decode cX7_odd 36 = .ok (.goto 4, 3) := by decide +kernel
theorem dX7_odd_39 : decode cX7_odd 39 = .ok (.iconst 0, 1) := by decide +kernel
theorem dX7_odd_40 : decode cX7_odd 40 = .ok (.invokevirtual 134, 3) := by decide +kernel
theorem dX7_odd_43 : decode cX7_odd 43 = .ok (.return_, 1) := by decide +kernel
theorem dX7_operand_0 : decode cX7_operand 0 = .ok (.iload_n 1, 1) := by decide +kernel
theorem dX7_operand_1 : decode cX7_operand 1 = .ok (.iconst 4, 1) := by decide +kernel
theorem dX7_operand_2 : decode cX7_operand 2 = .ok (.ishr, 1) := by decide +kernel
theorem dX7_operand_3 : decode cX7_operand 3 = .ok (.iconst 3, 1) := by decide +kernel
theorem dX7_operand_4 : decode cX7_operand 4 = .ok (.iand, 1) := by decide +kernel
theorem dX7_operand_5 : decode cX7_operand 5 = .ok (.istore_n 3, 1) := by decide +kernel
theorem dX7_operand_6 : decode cX7_operand 6 = .ok (.iload_n 1, 1) := by decide +kernel
theorem dX7_operand_7 : decode cX7_operand 7 = .ok (.bipush 15, 2) := by decide +kernel
theorem dX7_operand_9 : decode cX7_operand 9 = .ok (.iand, 1) := by decide +kernel
theorem dX7_operand_10 : decode cX7_operand 10 = .ok (.istore 4, 2) := by decide +kernel
theorem dX7_operand_12 : decode cX7_operand 12 = .ok (.iload_n 3, 1) := by decide +kernel
theorem dX7_operand_13 : decode cX7_operand 13 = .ok (.ifCond .ne 10, 3) := by decide +kernel
theorem dX7_operand_16 : decode cX7_operand 16 = .ok (.aload_n 0, 1) := by decide +kernel
theorem dX7_operand_17 : decode cX7_operand 17 = .ok (.iload 4, 2) := by decide +kernel
theorem dX7_operand_19 : decode cX7_operand 19 = .ok (.invokevirtual 119, 3) := by decide +kernel
theorem dX7_operand_22 : decode cX7_operand 22 = .ok (.ireturn, 1) := by decide +kernel
theorem dX7_operand_23 : decode cX7_operand 23 = .ok (.iload_n 3, 1) := by decide +kernel
theorem dX7_operand_24 : decode cX7_operand 24 = .ok (.iconst 2, 1) := by decide +kernel
theorem dX7_operand_25 : decode cX7_operand 25 = .ok (.if_icmp .ne 32, 3) := by decide +kernel
theorem dX7_operand_28 : decode cX7_operand 28 = .ok (.aload_n 0, 1) := by decide +kernel
theorem dX7_operand_29 : decode cX7_operand 29 = .ok (.invokevirtual 142, 3) := by decide +kernel
theorem dX7_operand_32 : decode cX7_operand 32 = .ok (.istore 5, 2) := by decide +kernel
theorem dX7_operand_34 : decode cX7_operand 34 = .ok (.iload 4, 2) := by decide +kernel
theorem dX7_operand_36 : decode cX7_operand 36 = .ok (.ifCond .ne 8, 3) := by decide +kernel
theorem dX7_operand_39 : decode cX7_operand 39 = .ok (.iload 5, 2) := by decide +kernel
theorem dX7_operand_41 : decode cX7_operand 41 = .ok (.goto 15, 3) := by decide +kernel
theorem dX7_operand_44 : decode cX7_operand 44 = .ok (.iload 5, 2) := by decide +kernel
theorem dX7_operand_46 : decode cX7_operand 46 = .ok (.aload_n 0, 1) := by decide +kernel
theorem dX7_operand_47 : decode cX7_operand 47 = .ok (.iload 4, 2) := by decide +kernel
theorem dX7_operand_49 : decode cX7_operand 49 = .ok (.invokevirtual 146, 3) := by decide +kernel
theorem dX7_operand_52 : decode cX7_operand 52 = .ok (.iadd, 1) := by decide +kernel
theorem dX7_operand_53 : decode cX7_operand 53 = .ok (.ldc 118, 2) := by decide +kernel
theorem dX7_operand_55 : decode cX7_operand 55 = .ok (.iand, 1) := by decide +kernel
theorem dX7_operand_56 : decode cX7_operand 56 = .ok (.ireturn, 1) := by decide +kernel
theorem dX7_operand_57 : decode cX7_operand 57 = .ok (.aload_n 0, 1) := by decide +kernel
theorem dX7_operand_58 : decode cX7_operand 58 = .ok (.iload 4, 2) := by decide +kernel
theorem dX7_operand_60 : decode cX7_operand 60 = .ok (.invokevirtual 146, 3) := by decide +kernel
theorem dX7_operand_63 : decode cX7_operand 63 = .ok (.istore 5, 2) := by decide +kernel
theorem dX7_operand_65 : decode cX7_operand 65 = .ok (.iload_n 3, 1) := by decide +kernel
theorem dX7_operand_66 : decode cX7_operand 66 = .ok (.iconst 3, 1) := by decide +kernel
theorem dX7_operand_67 : decode cX7_operand 67 = .ok (.if_icmp .ne 24, 3) := by decide +kernel
theorem dX7_operand_70 : decode cX7_operand 70 = .ok (.aload_n 0, 1) := by decide +kernel
theorem dX7_operand_71 : decode cX7_operand 71 = .ok (.iload 4, 2) := by decide +kernel
theorem dX7_operand_73 : decode cX7_operand 73 = .ok (.iload 5, 2) := by decide +kernel
theorem dX7_operand_75 : decode cX7_operand 75 = .ok (.iload_n 2, 1) := by decide +kernel
theorem dX7_operand_76 : decode cX7_operand 76 = .ok (.ifCond .eq 7, 3) := by decide +kernel
theorem dX7_operand_79 : decode cX7_operand 79 = .ok (.iconst 1, 1) := by decide +kernel
theorem dX7_operand_80 : decode cX7_operand 80 = .ok (.goto 4, 3) := by decide +kernel
theorem dX7_operand_83 : decode cX7_operand 83 = .ok (.iconst 2, 1) := by decide +kernel
theorem dX7_operand_84 : decode cX7_operand 84 = .ok (.iadd, 1) := by decide +kernel
theorem dX7_operand_85 : decode cX7_operand 85 = .ok (.ldc 118, 2) := by decide +kernel
theorem dX7_operand_87 : decode cX7_operand 87 = .ok (.iand, 1) := by decide +kernel
theorem dX7_operand_88 : decode cX7_operand 88 = .ok (.invokevirtual 149, 3) := by decide +kernel
theorem dX7_operand_91 : decode cX7_operand 91 = .ok (.iload 5, 2) := by decide +kernel
theorem dX7_operand_93 : decode cX7_operand 93 = .ok (.ireturn, 1) := by decide +kernel
theorem dX7_read_0 : decode cX7_read 0 = .ok (.iload_n 2, 1) := by decide +kernel
theorem dX7_read_1 : decode cX7_read 1 = .ok (.ifCond .eq 11, 3) := by decide +kernel
theorem dX7_read_4 : decode cX7_read 4 = .ok (.aload_n 0, 1) := by decide +kernel
theorem dX7_read_5 : decode cX7_read 5 = .ok (.iload_n 1, 1) := by decide +kernel
theorem dX7_read_6 : decode cX7_read 6 = .ok (.invokevirtual 73, 3) := by decide +kernel
theorem dX7_read_9 : decode cX7_read 9 = .ok (.goto 8, 3) := by decide +kernel
theorem dX7_read_12 : decode cX7_read 12 = .ok (.aload_n 0, 1) := by decide +kernel
theorem dX7_read_13 : decode cX7_read 13 = .ok (.iload_n 1, 1) := by decide +kernel
theorem dX7_read_14 : decode cX7_read 14 = .ok (.invokevirtual 122, 3) := by decide +kernel
theorem dX7_read_17 : decode cX7_read 17 = .ok (.ireturn, 1) := by decide +kernel
theorem dX7_write_0 : decode cX7_write 0 = .ok (.iload_n 3, 1) := by decide +kernel
theorem dX7_write_1 : decode cX7_write 1 = .ok (.ifCond .eq 16, 3) := by decide +kernel
theorem dX7_write_4 : decode cX7_write 4 = .ok (.aload_n 0, 1) := by decide +kernel
theorem dX7_write_5 : decode cX7_write 5 = .ok (.iload_n 1, 1) := by decide +kernel
theorem dX7_write_6 : decode cX7_write 6 = .ok (.iload_n 2, 1) := by decide +kernel
theorem dX7_write_7 : decode cX7_write 7 = .ok (.sipush 255, 3) := by decide +kernel
theorem dX7_write_10 : decode cX7_write 10 = .ok (.iand, 1) := by decide +kernel
theorem dX7_write_11 : decode cX7_write 11 = .ok (.invokevirtual 76, 3) := by decide +kernel
theorem dX7_write_14 : decode cX7_write 14 = .ok (.goto 12, 3) := by decide +kernel
theorem dX7_write_17 : decode cX7_write 17 = .ok (.aload_n 0, 1) := by decide +kernel
theorem dX7_write_18 : decode cX7_write 18 = .ok (.iload_n 1, 1) := by decide +kernel
theorem dX7_write_19 : decode cX7_write 19 = .ok (.iload_n 2, 1) := by decide +kernel
theorem dX7_write_20 : decode cX7_write 20 = .ok (.ldc 118, 2) := by decide +kernel
theorem dX7_write_22 : decode cX7_write 22 = .ok (.iand, 1) := by decide +kernel
theorem dX7_write_23 : decode cX7_write 23 = .ok (.invokevirtual 125, 3) := by decide +kernel
theorem dX7_write_26 : decode cX7_write 26 = .ok (.return_, 1) := by decide +kernel
theorem dX7_plus_0 : decode cX7_plus 0 = .ok (.iload_n 3, 1) := by decide +kernel
theorem dX7_plus_1 : decode cX7_plus 1 = .ok (.ifCond .eq 9, 3) := by decide +kernel
theorem dX7_plus_4 : decode cX7_plus 4 = .ok (.sipush 255, 3) := by decide +kernel
theorem dX7_plus_7 : decode cX7_plus 7 = .ok (.goto 5, 3) := by decide +kernel
theorem dX7_plus_10 : decode cX7_plus 10 = .ok (.ldc 118, 2) := by decide +kernel
theorem dX7_plus_12 : decode cX7_plus 12 = .ok (.istore 4, 2) := by decide +kernel
theorem dX7_plus_14 : decode cX7_plus 14 = .ok (.iload_n 1, 1) := by decide +kernel
theorem dX7_plus_15 : decode cX7_plus 15 = .ok (.iload_n 2, 1) := by decide +kernel
theorem dX7_plus_16 : decode cX7_plus 16 = .ok (.iadd, 1) := by decide +kernel
theorem dX7_plus_17 : decode cX7_plus 17 = .ok (.iload 4, 2) := by decide +kernel
theorem dX7_plus_19 : decode cX7_plus 19 = .ok (.iand, 1) := by decide +kernel
theorem dX7_plus_20 : decode cX7_plus 20 = .ok (.istore 5, 2) := by decide +kernel
theorem dX7_plus_22 : decode cX7_plus 22 = .ok (.aload_n 0, 1) := by decide +kernel
theorem dX7_plus_23 : decode cX7_plus 23 = .ok (.iload 5, 2) := by decide +kernel
theorem dX7_plus_25 : decode cX7_plus 25 = .ok (.iconst 0, 1) := by decide +kernel
theorem dX7_plus_26 : decode cX7_plus 26 = .ok (.iload_n 3, 1) := by decide +kernel
theorem dX7_plus_27 : decode cX7_plus 27 = .ok (.invokevirtual 151, 3) := by decide +kernel
theorem dX7_plus_30 : decode cX7_plus 30 = .ok (.aload_n 0, 1) := by decide +kernel
theorem dX7_plus_31 : decode cX7_plus 31 = .ok (.sipush 4096, 3) := by decide +kernel
theorem dX7_plus_34 : decode cX7_plus 34 = .ok (.iload_n 1, 1) := by decide +kernel
theorem dX7_plus_35 : decode cX7_plus 35 = .ok (.iload_n 2, 1) := by decide +kernel
theorem dX7_plus_36 : decode cX7_plus 36 = .ok (.iadd, 1) := by decide +kernel
theorem dX7_plus_37 : decode cX7_plus 37 = .ok (.iload 4, 2) := by decide +kernel
theorem dX7_plus_39 : decode cX7_plus 39 = .ok (.if_icmp .le 7, 3) := by decide +kernel
theorem dX7_plus_42 : decode cX7_plus 42 = .ok (.iconst 1, 1) := by decide +kernel
theorem dX7_plus_43 : decode cX7_plus 43 = .ok (.goto 4, 3) := by decide +kernel
theorem dX7_plus_46 : decode cX7_plus 46 = .ok (.iconst 0, 1) := by decide +kernel
theorem dX7_plus_47 : decode cX7_plus 47 = .ok (.invokevirtual 134, 3) := by decide +kernel
theorem dX7_plus_50 : decode cX7_plus 50 = .ok (.aload_n 0, 1) := by decide +kernel
theorem dX7_plus_51 : decode cX7_plus 51 = .ok (.sipush 2048, 3) := by decide +kernel
theorem dX7_plus_54 : decode cX7_plus 54 = .ok (.iload_n 1, 1) := by decide +kernel
theorem dX7_plus_55 : decode cX7_plus 55 = .ok (.iload_n 3, 1) := by decide +kernel
theorem dX7_plus_56 : decode cX7_plus 56 = .ok (.invokestatic 138, 3) := by decide +kernel
theorem dX7_plus_59 : decode cX7_plus 59 = .ok (.ifCond .ge 7, 3) := by decide +kernel
theorem dX7_plus_62 : decode cX7_plus 62 = .ok (.iconst 1, 1) := by decide +kernel
theorem dX7_plus_63 : decode cX7_plus 63 = .ok (.goto 4, 3) := by decide +kernel
theorem dX7_plus_66 : decode cX7_plus 66 = .ok (.iconst 0, 1) := by decide +kernel
theorem dX7_plus_67 : decode cX7_plus 67 = .ok (.iload_n 2, 1) := by decide +kernel
theorem dX7_plus_68 : decode cX7_plus 68 = .ok (.iload_n 3, 1) := by decide +kernel
theorem dX7_plus_69 : decode cX7_plus 69 = .ok (.invokestatic 138, 3) := by decide +kernel
theorem dX7_plus_72 : decode cX7_plus 72 = .ok (.ifCond .ge 7, 3) := by decide +kernel
theorem dX7_plus_75 : decode cX7_plus 75 = .ok (.iconst 1, 1) := by decide +kernel
theorem dX7_plus_76 : decode cX7_plus 76 = .ok (.goto 4, 3) := by decide +kernel
theorem dX7_plus_79 : decode cX7_plus 79 = .ok (.iconst 0, 1) := by decide +kernel
theorem dX7_plus_80 : decode cX7_plus 80 = .ok (.if_icmp .ne 37, 3) := by decide +kernel
theorem dX7_plus_83 : decode cX7_plus 83 = .ok (.iload 5, 2) := by decide +kernel
theorem dX7_plus_85 : decode cX7_plus 85 = .ok (.iload_n 3, 1) := by decide +kernel
theorem dX7_plus_86 : decode cX7_plus 86 = .ok (.invokestatic 138, 3) := by decide +kernel
theorem dX7_plus_89 : decode cX7_plus 89 = .ok (.ifCond .ge 7, 3) := by decide +kernel
theorem dX7_plus_92 : decode cX7_plus 92 = .ok (.iconst 1, 1) := by decide +kernel
theorem dX7_plus_93 : decode cX7_plus 93 = .ok (.goto 4, 3) := by decide +kernel
theorem dX7_plus_96 : decode cX7_plus 96 = .ok (.iconst 0, 1) := by decide +kernel
theorem dX7_plus_97 : decode cX7_plus 97 = .ok (.iload_n 1, 1) := by decide +kernel
theorem dX7_plus_98 : decode cX7_plus 98 = .ok (.iload_n 3, 1) := by decide +kernel
theorem dX7_plus_99 : decode cX7_plus 99 = .ok (.invokestatic 138, 3) := by decide +kernel
theorem dX7_plus_102 : decode cX7_plus 102 = .ok (.ifCond .ge 7, 3) := by decide +kernel
theorem dX7_plus_105 : decode cX7_plus 105 = .ok (.iconst 1, 1) := by decide +kernel
theorem dX7_plus_106 : decode cX7_plus 106 = .ok (.goto 4, 3) := by decide +kernel
theorem dX7_plus_109 : decode cX7_plus 109 = .ok (.iconst 0, 1) := by decide +kernel
theorem dX7_plus_110 : decode cX7_plus 110 = .ok (.if_icmp .eq 7, 3) := by decide +kernel
theorem dX7_plus_113 : decode cX7_plus 113 = .ok (.iconst 1, 1) := by decide +kernel
theorem dX7_plus_114 : decode cX7_plus 114 = .ok (.goto 4, 3) := by decide +kernel
theorem dX7_plus_117 : decode cX7_plus 117 = .ok (.iconst 0, 1) := by decide +kernel
theorem dX7_plus_118 : decode cX7_plus 118 = .ok (.invokevirtual 134, 3) := by decide +kernel
theorem dX7_plus_121 : decode cX7_plus 121 = .ok (.iload 5, 2) := by decide +kernel
theorem dX7_plus_123 : decode cX7_plus 123 = .ok (.ireturn, 1) := by decide +kernel
theorem dX7_less_0 : decode cX7_less 0 = .ok (.iload_n 3, 1) := by decide +kernel
theorem dX7_less_1 : decode cX7_less 1 = .ok (.ifCond .eq 9, 3) := by decide +kernel
theorem dX7_less_4 : decode cX7_less 4 = .ok (.sipush 255, 3) := by decide +kernel
theorem dX7_less_7 : decode cX7_less 7 = .ok (.goto 5, 3) := by decide +kernel
theorem dX7_less_10 : decode cX7_less 10 = .ok (.ldc 118, 2) := by decide +kernel
theorem dX7_less_12 : decode cX7_less 12 = .ok (.istore 4, 2) := by decide +kernel
theorem dX7_less_14 : decode cX7_less 14 = .ok (.iload_n 1, 1) := by decide +kernel
theorem dX7_less_15 : decode cX7_less 15 = .ok (.iload_n 2, 1) := by decide +kernel
theorem dX7_less_16 : decode cX7_less 16 = .ok (.isub, 1) := by decide +kernel
theorem dX7_less_17 : decode cX7_less 17 = .ok (.iload 4, 2) := by decide +kernel
theorem dX7_less_19 : decode cX7_less 19 = .ok (.iand, 1) := by decide +kernel
theorem dX7_less_20 : decode cX7_less 20 = .ok (.istore 5, 2) := by decide +kernel
theorem dX7_less_22 : decode cX7_less 22 = .ok (.aload_n 0, 1) := by decide +kernel
theorem dX7_less_23 : decode cX7_less 23 = .ok (.iload 5, 2) := by decide +kernel
theorem dX7_less_25 : decode cX7_less 25 = .ok (.iconst 0, 1) := by decide +kernel
theorem dX7_less_26 : decode cX7_less 26 = .ok (.iload_n 3, 1) := by decide +kernel
theorem dX7_less_27 : decode cX7_less 27 = .ok (.invokevirtual 151, 3) := by decide +kernel
theorem dX7_less_30 : decode cX7_less 30 = .ok (.aload_n 0, 1) := by decide +kernel
theorem dX7_less_31 : decode cX7_less 31 = .ok (.sipush 4096, 3) := by decide +kernel
theorem dX7_less_34 : decode cX7_less 34 = .ok (.iload_n 2, 1) := by decide +kernel
theorem dX7_less_35 : decode cX7_less 35 = .ok (.iload_n 1, 1) := by decide +kernel
theorem dX7_less_36 : decode cX7_less 36 = .ok (.if_icmp .gt 7, 3) := by decide +kernel
theorem dX7_less_39 : decode cX7_less 39 = .ok (.iconst 1, 1) := by decide +kernel
theorem dX7_less_40 : decode cX7_less 40 = .ok (.goto 4, 3) := by decide +kernel
theorem dX7_less_43 : decode cX7_less 43 = .ok (.iconst 0, 1) := by decide +kernel
theorem dX7_less_44 : decode cX7_less 44 = .ok (.invokevirtual 134, 3) := by decide +kernel
theorem dX7_less_47 : decode cX7_less 47 = .ok (.aload_n 0, 1) := by decide +kernel
theorem dX7_less_48 : decode cX7_less 48 = .ok (.sipush 2048, 3) := by decide +kernel
theorem dX7_less_51 : decode cX7_less 51 = .ok (.iload_n 1, 1) := by decide +kernel
theorem dX7_less_52 : decode cX7_less 52 = .ok (.iload_n 3, 1) := by decide +kernel
theorem dX7_less_53 : decode cX7_less 53 = .ok (.invokestatic 138, 3) := by decide +kernel
theorem dX7_less_56 : decode cX7_less 56 = .ok (.ifCond .ge 7, 3) := by decide +kernel
theorem dX7_less_59 : decode cX7_less 59 = .ok (.iconst 1, 1) := by decide +kernel
theorem dX7_less_60 : decode cX7_less 60 = .ok (.goto 4, 3) := by decide +kernel
theorem dX7_less_63 : decode cX7_less 63 = .ok (.iconst 0, 1) := by decide +kernel
theorem dX7_less_64 : decode cX7_less 64 = .ok (.iload_n 2, 1) := by decide +kernel
theorem dX7_less_65 : decode cX7_less 65 = .ok (.iload_n 3, 1) := by decide +kernel
theorem dX7_less_66 : decode cX7_less 66 = .ok (.invokestatic 138, 3) := by decide +kernel
theorem dX7_less_69 : decode cX7_less 69 = .ok (.ifCond .ge 7, 3) := by decide +kernel
theorem dX7_less_72 : decode cX7_less 72 = .ok (.iconst 1, 1) := by decide +kernel
theorem dX7_less_73 : decode cX7_less 73 = .ok (.goto 4, 3) := by decide +kernel
theorem dX7_less_76 : decode cX7_less 76 = .ok (.iconst 0, 1) := by decide +kernel
theorem dX7_less_77 : decode cX7_less 77 = .ok (.if_icmp .eq 37, 3) := by decide +kernel
theorem dX7_less_80 : decode cX7_less 80 = .ok (.iload 5, 2) := by decide +kernel
theorem dX7_less_82 : decode cX7_less 82 = .ok (.iload_n 3, 1) := by decide +kernel
theorem dX7_less_83 : decode cX7_less 83 = .ok (.invokestatic 138, 3) := by decide +kernel
theorem dX7_less_86 : decode cX7_less 86 = .ok (.ifCond .ge 7, 3) := by decide +kernel
theorem dX7_less_89 : decode cX7_less 89 = .ok (.iconst 1, 1) := by decide +kernel
theorem dX7_less_90 : decode cX7_less 90 = .ok (.goto 4, 3) := by decide +kernel
theorem dX7_less_93 : decode cX7_less 93 = .ok (.iconst 0, 1) := by decide +kernel
theorem dX7_less_94 : decode cX7_less 94 = .ok (.iload_n 1, 1) := by decide +kernel
theorem dX7_less_95 : decode cX7_less 95 = .ok (.iload_n 3, 1) := by decide +kernel
theorem dX7_less_96 : decode cX7_less 96 = .ok (.invokestatic 138, 3) := by decide +kernel
theorem dX7_less_99 : decode cX7_less 99 = .ok (.ifCond .ge 7, 3) := by decide +kernel
theorem dX7_less_102 : decode cX7_less 102 = .ok (.iconst 1, 1) := by decide +kernel
theorem dX7_less_103 : decode cX7_less 103 = .ok (.goto 4, 3) := by decide +kernel
theorem dX7_less_106 : decode cX7_less 106 = .ok (.iconst 0, 1) := by decide +kernel
