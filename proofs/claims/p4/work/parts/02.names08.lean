theorem dX7_init_16 : decode cX7_init 16 = .ok (.newarray .byte, 2) := by decide +kernel
theorem dX7_init_18 : decode cX7_init 18 = .ok (.putfield 14, 3) := by decide +kernel
theorem dX7_init_21 : decode cX7_init 21 = .ok (.aload_n 0, 1) := by decide +kernel
theorem dX7_init_22 : decode cX7_init 22 = .ok (.sipush 16384, 3) := by decide +kernel
theorem dX7_init_25 : decode cX7_init 25 = .ok (.newarray .byte, 2) := by decide +kernel
theorem dX7_init_27 : decode cX7_init 27 = .ok (.putfield 17, 3) := by decide +kernel
theorem dX7_init_30 : decode cX7_init 30 = .ok (.aload_n 0, 1) := by decide +kernel
theorem dX7_init_31 : decode cX7_init 31 = .ok (.sipush 8192, 3) := by decide +kernel
theorem dX7_init_34 : decode cX7_init 34 = .ok (.newarray .byte, 2) := by decide +kernel
theorem dX7_init_36 : decode cX7_init 36 = .ok (.putfield 20, 3) := by decide +kernel
theorem dX7_init_39 : decode cX7_init 39 = .ok (.aload_n 0, 1) := by decide +kernel
theorem dX7_init_40 : decode cX7_init 40 = .ok (.bipush 8, 2) := by decide +kernel
theorem dX7_init_42 : decode cX7_init 42 = .ok (.newarray .int, 2) := by decide +kernel
theorem dX7_init_44 : decode cX7_init 44 = .ok (.putfield 23, 3) := by decide +kernel
theorem dX7_init_47 : decode cX7_init 47 = .ok (.aload_n 0, 1) := by decide +kernel
theorem dX7_init_48 : decode cX7_init 48 = .ok (.sipush 4096, 3) := by decide +kernel
theorem dX7_init_51 : decode cX7_init 51 = .ok (.newarray .boolean, 2) := by decide +kernel
theorem dX7_init_53 : decode cX7_init 53 = .ok (.putfield 27, 3) := by decide +kernel
theorem dX7_init_56 : decode cX7_init 56 = .ok (.aload_n 0, 1) := by decide +kernel
theorem dX7_init_57 : decode cX7_init 57 = .ok (.bipush 64, 2) := by decide +kernel
theorem dX7_init_59 : decode cX7_init 59 = .ok (.newarray .boolean, 2) := by decide +kernel
theorem dX7_init_61 : decode cX7_init 61 = .ok (.putfield 31, 3) := by decide +kernel
theorem dX7_init_64 : decode cX7_init 64 = .ok (.aload_n 0, 1) := by decide +kernel
theorem dX7_init_65 : decode cX7_init 65 = .ok (.iconst 2, 1) := by decide +kernel
theorem dX7_init_66 : decode cX7_init 66 = .ok (.putfield 34, 3) := by decide +kernel
theorem dX7_init_69 : decode cX7_init 69 = .ok (.aload_n 0, 1) := by decide +kernel
theorem dX7_init_70 : decode cX7_init 70 = .ok (.bipush 16, 2) := by decide +kernel
theorem dX7_init_72 : decode cX7_init 72 = .ok (.newarray .boolean, 2) := by decide +kernel
theorem dX7_init_74 : decode cX7_init 74 = .ok (.putfield 38, 3) := by decide +kernel
theorem dX7_init_77 : decode cX7_init 77 = .ok (.aload_n 0, 1) := by decide +kernel
theorem dX7_init_78 : decode cX7_init 78 = .ok (.sipush 1000, 3) := by decide +kernel
theorem dX7_init_81 : decode cX7_init 81 = .ok (.newarray .int, 2) := by decide +kernel
theorem dX7_init_83 : decode cX7_init 83 = .ok (.putfield 41, 3) := by decide +kernel
theorem dX7_init_86 : decode cX7_init 86 = .ok (.return_, 1) := by decide +kernel
theorem dX7_in_0 : decode cX7_in 0 = .ok (.iload_n 0, 1) := by decide +kernel
theorem dX7_in_1 : decode cX7_in 1 = .ok (.iload_n 1, 1) := by decide +kernel
theorem dX7_in_2 : decode cX7_in 2 = .ok (.if_icmp .lt 12, 3) := by decide +kernel
theorem dX7_in_5 : decode cX7_in 5 = .ok (.iload_n 0, 1) := by decide +kernel
theorem dX7_in_6 : decode cX7_in 6 = .ok (.iload_n 2, 1) := by decide +kernel
theorem dX7_in_7 : decode cX7_in 7 = .ok (.if_icmp .gt 7, 3) := by decide +kernel
theorem dX7_in_10 : decode cX7_in 10 = .ok (.iconst 1, 1) := by decide +kernel
theorem dX7_in_11 : decode cX7_in 11 = .ok (.goto 4, 3) := by decide +kernel
theorem dX7_in_14 : decode cX7_in 14 = .ok (.iconst 0, 1) := by decide +kernel
theorem dX7_in_15 : decode cX7_in 15 = .ok (.ireturn, 1) := by decide +kernel
theorem dX7_plain_0 : decode cX7_plain 0 = .ok (.iload_n 1, 1) := by decide +kernel
theorem dX7_plain_1 : decode cX7_plain 1 = .ok (.sipush 8192, 3) := by decide +kernel
theorem dX7_plain_4 : decode cX7_plain 4 = .ok (.if_icmp .ge 14, 3) := by decide +kernel
theorem dX7_plain_7 : decode cX7_plain 7 = .ok (.aload_n 0, 1) := by decide +kernel
theorem dX7_plain_8 : decode cX7_plain 8 = .ok (.getfield 7, 3) := by decide +kernel
theorem dX7_plain_11 : decode cX7_plain 11 = .ok (.iload_n 1, 1) := by decide +kernel
theorem dX7_plain_12 : decode cX7_plain 12 = .ok (.baload, 1) := by decide +kernel
theorem dX7_plain_13 : decode cX7_plain 13 = .ok (.sipush 255, 3) := by decide +kernel
theorem dX7_plain_16 : decode cX7_plain 16 = .ok (.iand, 1) := by decide +kernel
theorem dX7_plain_17 : decode cX7_plain 17 = .ok (.ireturn, 1) := by decide +kernel
theorem dX7_plain_18 : decode cX7_plain 18 = .ok (.iload_n 1, 1) := by decide +kernel
theorem dX7_plain_19 : decode cX7_plain 19 = .ok (.sipush 8192, 3) := by decide +kernel
theorem dX7_plain_22 : decode cX7_plain 22 = .ok (.sipush 16383, 3) := by decide +kernel
theorem dX7_plain_25 : decode cX7_plain 25 = .ok (.invokestatic 47, 3) := by decide +kernel
theorem dX7_plain_28 : decode cX7_plain 28 = .ok (.ifCond .ne 9, 3) := by decide +kernel
theorem dX7_plain_31 : decode cX7_plain 31 = .ok (.iload_n 1, 1) := by decide +kernel
theorem dX7_plain_32 : decode cX7_plain 32 = .ok (.ldc 51, 2) := by decide +kernel
theorem dX7_plain_34 : decode cX7_plain 34 = .ok (.if_icmp .lt 14, 3) := by decide +kernel
theorem dX7_plain_37 : decode cX7_plain 37 = .ok (.aload_n 0, 1) := by decide +kernel
theorem dX7_plain_38 : decode cX7_plain 38 = .ok (.getfield 14, 3) := by decide +kernel
theorem dX7_plain_41 : decode cX7_plain 41 = .ok (.iload_n 1, 1) := by decide +kernel
theorem dX7_plain_42 : decode cX7_plain 42 = .ok (.baload, 1) := by decide +kernel
theorem dX7_plain_43 : decode cX7_plain 43 = .ok (.sipush 255, 3) := by decide +kernel
theorem dX7_plain_46 : decode cX7_plain 46 = .ok (.iand, 1) := by decide +kernel
theorem dX7_plain_47 : decode cX7_plain 47 = .ok (.ireturn, 1) := by decide +kernel
theorem dX7_plain_48 : decode cX7_plain 48 = .ok (.iload_n 1, 1) := by decide +kernel
theorem dX7_plain_49 : decode cX7_plain 49 = .ok (.ldc 52, 2) := by decide +kernel
theorem dX7_plain_51 : decode cX7_plain 51 = .ok (.ldc 53, 2) := by decide +kernel
theorem dX7_plain_53 : decode cX7_plain 53 = .ok (.invokestatic 47, 3) := by decide +kernel
theorem dX7_plain_56 : decode cX7_plain 56 = .ok (.ifCond .eq 23, 3) := by decide +kernel
theorem dX7_plain_59 : decode cX7_plain 59 = .ok (.aload_n 0, 1) := by decide +kernel
theorem dX7_plain_60 : decode cX7_plain 60 = .ok (.getfield 14, 3) := by decide +kernel
theorem dX7_plain_63 : decode cX7_plain 63 = .ok (.ldc 52, 2) := by decide +kernel
theorem dX7_plain_65 : decode cX7_plain 65 = .ok (.iload_n 1, 1) := by decide +kernel
theorem dX7_plain_66 : decode cX7_plain 66 = .ok (.sipush 256, 3) := by decide +kernel
theorem dX7_plain_69 : decode cX7_plain 69 = .ok (.irem, 1) := by decide +kernel
theorem dX7_plain_70 : decode cX7_plain 70 = .ok (.iadd, 1) := by decide +kernel
theorem dX7_plain_71 : decode cX7_plain 71 = .ok (.baload, 1) := by decide +kernel
theorem dX7_plain_72 : decode cX7_plain 72 = .ok (.sipush 255, 3) := by decide +kernel
theorem dX7_plain_75 : decode cX7_plain 75 = .ok (.iand, 1) := by decide +kernel
theorem dX7_plain_76 : decode cX7_plain 76 = .ok (.goto 4, 3) := by decide +kernel
theorem dX7_plain_79 : decode cX7_plain 79 = .ok (.iconst 0, 1) := by decide +kernel
theorem dX7_plain_80 : decode cX7_plain 80 = .ok (.ireturn, 1) := by decide +kernel
theorem dX7_isPort_0 : decode cX7_isPort 0 = .ok (.iload_n 0, 1) := by decide +kernel
theorem dX7_isPort_1 : decode cX7_isPort 1 = .ok (.ldc 54, 2) := by decide +kernel
theorem dX7_isPort_3 : decode cX7_isPort 3 = .ok (.ldc 55, 2) := by decide +kernel
theorem dX7_isPort_5 : decode cX7_isPort 5 = .ok (.invokestatic 47, 3) := by decide +kernel
theorem dX7_isPort_8 : decode cX7_isPort 8 = .ok (.ifCond .eq 13, 3) := by decide +kernel
theorem dX7_isPort_11 : decode cX7_isPort 11 = .ok (.iload_n 0, 1) := by decide +kernel
theorem dX7_isPort_12 : decode cX7_isPort 12 = .ok (.iconst 2, 1) := by decide +kernel
theorem dX7_isPort_13 : decode cX7_isPort 13 = .ok (.irem, 1) := by decide +kernel
theorem dX7_isPort_14 : decode cX7_isPort 14 = .ok (.ifCond .ne 7, 3) := by decide +kernel
theorem dX7_isPort_17 : decode cX7_isPort 17 = .ok (.iconst 1, 1) := by decide +kernel
theorem dX7_isPort_18 : decode cX7_isPort 18 = .ok (.goto 4, 3) := by decide +kernel
theorem dX7_isPort_21 : decode cX7_isPort 21 = .ok (.iconst 0, 1) := by decide +kernel
theorem dX7_isPort_22 : decode cX7_isPort 22 = .ok (.ireturn, 1) := by decide +kernel
theorem dX7_readByte_0 : decode cX7_readByte 0 = .ok (.iload_n 1, 1) := by decide +kernel
theorem dX7_readByte_1 : decode cX7_readByte 1 = .ok (.invokestatic 56, 3) := by decide +kernel
theorem dX7_readByte_4 : decode cX7_readByte 4 = .ok (.ifCond .eq 20, 3) := by decide +kernel
theorem dX7_readByte_7 : decode cX7_readByte 7 = .ok (.aload_n 0, 1) := by decide +kernel
theorem dX7_readByte_8 : decode cX7_readByte 8 = .ok (.iload_n 1, 1) := by decide +kernel
theorem dX7_readByte_9 : decode cX7_readByte 9 = .ok (.sipush 1024, 3) := by decide +kernel
theorem dX7_readByte_12 : decode cX7_readByte 12 = .ok (.idiv, 1) := by decide +kernel
theorem dX7_readByte_13 : decode cX7_readByte 13 = .ok (.iload_n 1, 1) := by decide +kernel
theorem dX7_readByte_14 : decode cX7_readByte 14 = .ok (.iconst 2, 1) := by decide +kernel
theorem dX7_readByte_15 : decode cX7_readByte 15 = .ok (.idiv, 1) := by decide +kernel
theorem dX7_readByte_16 : decode cX7_readByte 16 = .ok (.iconst 2, 1) := by decide +kernel
theorem dX7_readByte_17 : decode cX7_readByte 17 = .ok (.irem, 1) := by decide +kernel
theorem dX7_readByte_18 : decode cX7_readByte 18 = .ok (.invokevirtual 60, 3) := by decide +kernel
theorem dX7_readByte_21 : decode cX7_readByte 21 = .ok (.goto 8, 3) := by decide +kernel
theorem dX7_readByte_24 : decode cX7_readByte 24 = .ok (.aload_n 0, 1) := by decide +kernel
theorem dX7_readByte_25 : decode cX7_readByte 25 = .ok (.iload_n 1, 1) := by decide +kernel
theorem dX7_readByte_26 : decode cX7_readByte 26 = .ok (.invokevirtual 64, 3) := by decide +kernel
theorem dX7_readByte_29 : decode cX7_readByte 29 = .ok (.ireturn, 1) := by decide +kernel
theorem dX7_writeByte_0 : decode cX7_writeByte 0 = .ok (.iload_n 1, 1) := by decide +kernel
theorem dX7_writeByte_1 : decode cX7_writeByte 1 = .ok (.invokestatic 56, 3) := by decide +kernel
theorem dX7_writeByte_4 : decode cX7_writeByte 4 = .ok (.ifCond .eq 21, 3) := by decide +kernel
theorem dX7_writeByte_7 : decode cX7_writeByte 7 = .ok (.aload_n 0, 1) := by decide +kernel
theorem dX7_writeByte_8 : decode cX7_writeByte 8 = .ok (.iload_n 1, 1) := by decide +kernel
theorem dX7_writeByte_9 : decode cX7_writeByte 9 = .ok (.sipush 1024, 3) := by decide +kernel
theorem dX7_writeByte_12 : decode cX7_writeByte 12 = .ok (.idiv, 1) := by decide +kernel
theorem dX7_writeByte_13 : decode cX7_writeByte 13 = .ok (.iload_n 1, 1) := by decide +kernel
theorem dX7_writeByte_14 : decode cX7_writeByte 14 = .ok (.iconst 2, 1) := by decide +kernel
theorem dX7_writeByte_15 : decode cX7_writeByte 15 = .ok (.idiv, 1) := by decide +kernel
theorem dX7_writeByte_16 : decode cX7_writeByte 16 = .ok (.iconst 2, 1) := by decide +kernel
theorem dX7_writeByte_17 : decode cX7_writeByte 17 = .ok (.irem, 1) := by decide +kernel
theorem dX7_writeByte_18 : decode cX7_writeByte 18 = .ok (.iload_n 2, 1) := by decide +kernel
theorem dX7_writeByte_19 : decode cX7_writeByte 19 = .ok (.invokevirtual 68, 3) := by decide +kernel
theorem dX7_writeByte_22 : decode cX7_writeByte 22 = .ok (.goto 59, 3) := by decide +kernel
theorem dX7_writeByte_25 : decode cX7_writeByte 25 = .ok (.iload_n 1, 1) := by decide +kernel
theorem dX7_writeByte_26 : decode cX7_writeByte 26 = .ok (.sipush 8192, 3) := by decide +kernel
theorem dX7_writeByte_29 : decode cX7_writeByte 29 = .ok (.sipush 16383, 3) := by decide +kernel
theorem dX7_writeByte_32 : decode cX7_writeByte 32 = .ok (.invokestatic 47, 3) := by decide +kernel
theorem dX7_writeByte_35 : decode cX7_writeByte 35 = .ok (.ifCond .ne 9, 3) := by decide +kernel
theorem dX7_writeByte_38 : decode cX7_writeByte 38 = .ok (.iload_n 1, 1) := by decide +kernel
theorem dX7_writeByte_39 : decode cX7_writeByte 39 = .ok (.ldc 51, 2) := by decide +kernel
theorem dX7_writeByte_41 : decode cX7_writeByte 41 = .ok (.if_icmp .lt 14, 3) := by decide +kernel
theorem dX7_writeByte_44 : decode cX7_writeByte 44 = .ok (.aload_n 0, 1) := by decide +kernel
theorem dX7_writeByte_45 : decode cX7_writeByte 45 = .ok (.getfield 14, 3) := by decide +kernel
theorem dX7_writeByte_48 : decode cX7_writeByte 48 = .ok (.iload_n 1, 1) := by decide +kernel
theorem dX7_writeByte_49 : decode cX7_writeByte 49 = .ok (.iload_n 2, 1) := by decide +kernel
theorem dX7_writeByte_50 : decode cX7_writeByte 50 = .ok (.i2b, 1) := by decide +kernel
theorem dX7_writeByte_51 : decode cX7_writeByte 51 = .ok (.bastore, 1) := by decide +kernel
theorem dX7_writeByte_52 : decode cX7_writeByte 52 = .ok (.goto 29, 3) := by decide +kernel
theorem dX7_writeByte_55 : decode cX7_writeByte 55 = .ok (.iload_n 1, 1) := by decide +kernel
theorem dX7_writeByte_56 : decode cX7_writeByte 56 = .ok (.ldc 52, 2) := by decide +kernel
theorem dX7_writeByte_58 : decode cX7_writeByte 58 = .ok (.ldc 53, 2) := by decide +kernel
theorem dX7_writeByte_60 : decode cX7_writeByte 60 = .ok (.invokestatic 47, 3) := by decide +kernel
theorem dX7_writeByte_63 : decode cX7_writeByte 63 = .ok (.ifCond .eq 18, 3) := by decide +kernel
theorem dX7_writeByte_66 : decode cX7_writeByte 66 = .ok (.aload_n 0, 1) := by decide +kernel
theorem dX7_writeByte_67 : decode cX7_writeByte 67 = .ok (.getfield 14, 3) := by decide +kernel
theorem dX7_writeByte_70 : decode cX7_writeByte 70 = .ok (.ldc 52, 2) := by decide +kernel
theorem dX7_writeByte_72 : decode cX7_writeByte 72 = .ok (.iload_n 1, 1) := by decide +kernel
theorem dX7_writeByte_73 : decode cX7_writeByte 73 = .ok (.sipush 256, 3) := by decide +kernel
theorem dX7_writeByte_76 : decode cX7_writeByte 76 = .ok (.irem, 1) := by decide +kernel
theorem dX7_writeByte_77 : decode cX7_writeByte 77 = .ok (.iadd, 1) := by decide +kernel
theorem dX7_writeByte_78 : decode cX7_writeByte 78 = .ok (.iload_n 2, 1) := by decide +kernel
theorem dX7_writeByte_79 : decode cX7_writeByte 79 = .ok (.i2b, 1) := by decide +kernel
theorem dX7_writeByte_80 : decode cX7_writeByte 80 = .ok (.bastore, 1) := by decide +kernel
theorem dX7_writeByte_81 : decode cX7_writeByte 81 = .ok (.return_, 1) := by decide +kernel
theorem dX7_readWord_0 : decode cX7_readWord 0 = .ok (.iload_n 1, 1) := by decide +kernel
theorem dX7_readWord_1 : decode cX7_readWord 1 = .ok (.ldc 72, 2) := by decide +kernel
theorem dX7_readWord_3 : decode cX7_readWord 3 = .ok (.iand, 1) := by decide +kernel
theorem dX7_readWord_4 : decode cX7_readWord 4 = .ok (.istore_n 2, 1) := by decide +kernel
theorem dX7_readWord_5 : decode cX7_readWord 5 = .ok (.aload_n 0, 1) := by decide +kernel
theorem dX7_readWord_6 : decode cX7_readWord 6 = .ok (.iload_n 2, 1) := by decide +kernel
theorem dX7_readWord_7 : decode cX7_readWord 7 = .ok (.invokevirtual 73, 3) := by decide +kernel
theorem dX7_readWord_10 : decode cX7_readWord 10 = .ok (.istore_n 3, 1) := by decide +kernel
theorem dX7_readWord_11 : decode cX7_readWord 11 = .ok (.sipush 256, 3) := by decide +kernel
theorem dX7_readWord_14 : decode cX7_readWord 14 = .ok (.iload_n 3, 1) := by decide +kernel
theorem dX7_readWord_15 : decode cX7_readWord 15 = .ok (.imul, 1) := by decide +kernel
theorem dX7_readWord_16 : decode cX7_readWord 16 = .ok (.aload_n 0, 1) := by decide +kernel
theorem dX7_readWord_17 : decode cX7_readWord 17 = .ok (.iload_n 2, 1) := by decide +kernel
theorem dX7_readWord_18 : decode cX7_readWord 18 = .ok (.iconst 1, 1) := by decide +kernel
theorem dX7_readWord_19 : decode cX7_readWord 19 = .ok (.iadd, 1) := by decide +kernel
theorem dX7_readWord_20 : decode cX7_readWord 20 = .ok (.invokevirtual 73, 3) := by decide +kernel
theorem dX7_readWord_23 : decode cX7_readWord 23 = .ok (.iadd, 1) := by decide +kernel
theorem dX7_readWord_24 : decode cX7_readWord 24 = .ok (.ireturn, 1) := by decide +kernel
theorem dX7_writeWord_0 : decode cX7_writeWord 0 = .ok (.iload_n 1, 1) := by decide +kernel
theorem dX7_writeWord_1 : decode cX7_writeWord 1 = .ok (.ldc 72, 2) := by decide +kernel
theorem dX7_writeWord_3 : decode cX7_writeWord 3 = .ok (.iand, 1) := by decide +kernel
theorem dX7_writeWord_4 : decode cX7_writeWord 4 = .ok (.istore_n 3, 1) := by decide +kernel
theorem dX7_writeWord_5 : decode cX7_writeWord 5 = .ok (.aload_n 0, 1) := by decide +kernel
theorem dX7_writeWord_6 : decode cX7_writeWord 6 = .ok (.iload_n 3, 1) := by decide +kernel
theorem dX7_writeWord_7 : decode cX7_writeWord 7 = .ok (.iload_n 2, 1) := by decide +kernel
theorem dX7_writeWord_8 : decode cX7_writeWord 8 = .ok (.bipush 8, 2) := by decide +kernel
theorem dX7_writeWord_10 : decode cX7_writeWord 10 = .ok (.ishr, 1) := by decide +kernel
theorem dX7_writeWord_11 : decode cX7_writeWord 11 = .ok (.sipush 255, 3) := by decide +kernel
theorem dX7_writeWord_14 : decode cX7_writeWord 14 = .ok (.iand, 1) := by decide +kernel
theorem dX7_writeWord_15 : decode cX7_writeWord 15 = .ok (.invokevirtual 76, 3) := by decide +kernel
theorem dX7_writeWord_18 : decode cX7_writeWord 18 = .ok (.aload_n 0, 1) := by decide +kernel
theorem dX7_writeWord_19 : decode cX7_writeWord 19 = .ok (.iload_n 3, 1) := by decide +kernel
theorem dX7_writeWord_20 : decode cX7_writeWord 20 = .ok (.iconst 1, 1) := by decide +kernel
theorem dX7_writeWord_21 : decode cX7_writeWord 21 = .ok (.iadd, 1) := by decide +kernel
theorem dX7_writeWord_22 : decode cX7_writeWord 22 = .ok (.iload_n 2, 1) := by decide +kernel
theorem dX7_writeWord_23 : decode cX7_writeWord 23 = .ok (.sipush 255, 3) := by decide +kernel
theorem dX7_writeWord_26 : decode cX7_writeWord 26 = .ok (.iand, 1) := by decide +kernel
theorem dX7_writeWord_27 : decode cX7_writeWord 27 = .ok (.invokevirtual 76, 3) := by decide +kernel
theorem dX7_writeWord_30 : decode cX7_writeWord 30 = .ok (.return_, 1) := by decide +kernel
theorem dX7_nextPicture_0 : decode cX7_nextPicture 0 = .ok (.aload_n 0, 1) := by decide +kernel
theorem dX7_nextPicture_1 : decode cX7_nextPicture 1 = .ok (.aload_n 0, 1) := by decide +kernel
theorem dX7_nextPicture_2 : decode cX7_nextPicture 2 = .ok (.getfield 17, 3) := by decide +kernel
theorem dX7_nextPicture_5 : decode cX7_nextPicture 5 = .ok (.aload_n 0, 1) := by decide +kernel
theorem dX7_nextPicture_6 : decode cX7_nextPicture 6 = .ok (.getfield 80, 3) := by decide +kernel
theorem dX7_nextPicture_9 : decode cX7_nextPicture 9 = .ok (.baload, 1) := by decide +kernel
theorem dX7_nextPicture_10 : decode cX7_nextPicture 10 = .ok (.sipush 255, 3) := by decide +kernel
theorem dX7_nextPicture_13 : decode cX7_nextPicture 13 = .ok (.iand, 1) := by decide +kernel
theorem dX7_nextPicture_14 : decode cX7_nextPicture 14 = .ok (.putfield 83, 3) := by decide +kernel
theorem dX7_nextPicture_17 : decode cX7_nextPicture 17 = .ok (.aload_n 0, 1) := by decide +kernel
theorem dX7_nextPicture_18 : decode cX7_nextPicture 18 = .ok (.aload_n 0, 1) := by decide +kernel
theorem dX7_nextPicture_19 : decode cX7_nextPicture 19 = .ok (.getfield 80, 3) := by decide +kernel
theorem dX7_nextPicture_22 : decode cX7_nextPicture 22 = .ok (.iconst 1, 1) := by decide +kernel
theorem dX7_nextPicture_23 : decode cX7_nextPicture 23 = .ok (.iadd, 1) := by decide +kernel
theorem dX7_nextPicture_24 : decode cX7_nextPicture 24 = .ok (.sipush 16384, 3) := by decide +kernel
theorem dX7_nextPicture_27 : decode cX7_nextPicture 27 = .ok (.irem, 1) := by decide +kernel
theorem dX7_nextPicture_28 : decode cX7_nextPicture 28 = .ok (.putfield 80, 3) := by decide +kernel
theorem dX7_nextPicture_31 : decode cX7_nextPicture 31 = .ok (.return_, 1) := by decide +kernel
theorem dX7_nextGrom_0 : decode cX7_nextGrom 0 = .ok (.aload_n 0, 1) := by decide +kernel
theorem dX7_nextGrom_1 : decode cX7_nextGrom 1 = .ok (.aload_n 0, 1) := by decide +kernel
theorem dX7_nextGrom_2 : decode cX7_nextGrom 2 = .ok (.getfield 86, 3) := by decide +kernel
theorem dX7_nextGrom_5 : decode cX7_nextGrom 5 = .ok (.sipush 8192, 3) := by decide +kernel
theorem dX7_nextGrom_8 : decode cX7_nextGrom 8 = .ok (.if_icmp .ge 19, 3) := by decide +kernel
theorem dX7_nextGrom_11 : decode cX7_nextGrom 11 = .ok (.aload_n 0, 1) := by decide +kernel
theorem dX7_nextGrom_12 : decode cX7_nextGrom 12 = .ok (.getfield 20, 3) := by decide +kernel
theorem dX7_nextGrom_15 : decode cX7_nextGrom 15 = .ok (.aload_n 0, 1) := by decide +kernel
theorem dX7_nextGrom_16 : decode cX7_nextGrom 16 = .ok (.getfield 86, 3) := by decide +kernel
theorem dX7_nextGrom_19 : decode cX7_nextGrom 19 = .ok (.baload, 1) := by decide +kernel
theorem dX7_nextGrom_20 : decode cX7_nextGrom 20 = .ok (.sipush 255, 3) := by decide +kernel
theorem dX7_nextGrom_23 : decode cX7_nextGrom 23 = .ok (.iand, 1) := by decide +kernel
theorem dX7_nextGrom_24 : decode cX7_nextGrom 24 = .ok (.goto 4, 3) := by decide +kernel
theorem dX7_nextGrom_27 : decode cX7_nextGrom 27 = .ok (.iconst 0, 1) := by decide +kernel
theorem dX7_nextGrom_28 : decode cX7_nextGrom 28 = .ok (.putfield 89, 3) := by decide +kernel
theorem dX7_nextGrom_31 : decode cX7_nextGrom 31 = .ok (.aload_n 0, 1) := by decide +kernel
theorem dX7_nextGrom_32 : decode cX7_nextGrom 32 = .ok (.aload_n 0, 1) := by decide +kernel
theorem dX7_nextGrom_33 : decode cX7_nextGrom 33 = .ok (.getfield 86, 3) := by decide +kernel
theorem dX7_nextGrom_36 : decode cX7_nextGrom 36 = .ok (.sipush 8192, 3) := by decide +kernel
theorem dX7_nextGrom_39 : decode cX7_nextGrom 39 = .ok (.idiv, 1) := by decide +kernel
theorem dX7_nextGrom_40 : decode cX7_nextGrom 40 = .ok (.sipush 8192, 3) := by decide +kernel
theorem dX7_nextGrom_43 : decode cX7_nextGrom 43 = .ok (.imul, 1) := by decide +kernel
theorem dX7_nextGrom_44 : decode cX7_nextGrom 44 = .ok (.aload_n 0, 1) := by decide +kernel
theorem dX7_nextGrom_45 : decode cX7_nextGrom 45 = .ok (.getfield 86, 3) := by decide +kernel
theorem dX7_nextGrom_48 : decode cX7_nextGrom 48 = .ok (.iconst 1, 1) := by decide +kernel
theorem dX7_nextGrom_49 : decode cX7_nextGrom 49 = .ok (.iadd, 1) := by decide +kernel
theorem dX7_nextGrom_50 : decode cX7_nextGrom 50 = .ok (.sipush 8192, 3) := by decide +kernel
theorem dX7_nextGrom_53 : decode cX7_nextGrom 53 = .ok (.irem, 1) := by decide +kernel
theorem dX7_nextGrom_54 : decode cX7_nextGrom 54 = .ok (.iadd, 1) := by decide +kernel
theorem dX7_nextGrom_55 : decode cX7_nextGrom 55 = .ok (.putfield 86, 3) := by decide +kernel
theorem dX7_nextGrom_58 : decode cX7_nextGrom 58 = .ok (.return_, 1) := by decide +kernel
theorem dX7_readPort_0 : decode cX7_readPort 0 = .ok (.iconst 0, 1) := by decide +kernel
theorem dX7_readPort_1 : decode cX7_readPort 1 = .ok (.istore_n 3, 1) := by decide +kernel
theorem dX7_readPort_2 : decode cX7_readPort 2 = .ok (.iload_n 1, 1) := by decide +kernel
theorem dX7_readPort_3 : decode cX7_readPort 3 = .ok (.bipush 34, 2) := by decide +kernel
theorem dX7_readPort_5 : decode cX7_readPort 5 = .ok (.if_icmp .ne 24, 3) := by decide +kernel
theorem dX7_readPort_8 : decode cX7_readPort 8 = .ok (.iload_n 2, 1) := by decide +kernel
theorem dX7_readPort_9 : decode cX7_readPort 9 = .ok (.ifCond .ne 20, 3) := by decide +kernel
theorem dX7_readPort_12 : decode cX7_readPort 12 = .ok (.aload_n 0, 1) := by decide +kernel
theorem dX7_readPort_13 : decode cX7_readPort 13 = .ok (.getfield 83, 3) := by decide +kernel
theorem dX7_readPort_16 : decode cX7_readPort 16 = .ok (.istore_n 3, 1) := by decide +kernel
theorem dX7_readPort_17 : decode cX7_readPort 17 = .ok (.aload_n 0, 1) := by decide +kernel
theorem dX7_readPort_18 : decode cX7_readPort 18 = .ok (.invokevirtual 92, 3) := by decide +kernel
theorem dX7_readPort_21 : decode cX7_readPort 21 = .ok (.aload_n 0, 1) := by decide +kernel
theorem dX7_readPort_22 : decode cX7_readPort 22 = .ok (.iconst 0, 1) := by decide +kernel
theorem dX7_readPort_23 : decode cX7_readPort 23 = .ok (.putfield 95, 3) := by decide +kernel
theorem dX7_readPort_26 : decode cX7_readPort 26 = .ok (.goto 100, 3) := by decide +kernel
theorem dX7_readPort_29 : decode cX7_readPort 29 = .ok (.iload_n 1, 1) := by decide +kernel
theorem dX7_readPort_30 : decode cX7_readPort 30 = .ok (.bipush 34, 2) := by decide +kernel
theorem dX7_readPort_32 : decode cX7_readPort 32 = .ok (.if_icmp .ne 31, 3) := by decide +kernel
theorem dX7_readPort_35 : decode cX7_readPort 35 = .ok (.aload_n 0, 1) := by decide +kernel
theorem dX7_readPort_36 : decode cX7_readPort 36 = .ok (.getfield 99, 3) := by decide +kernel
theorem dX7_readPort_39 : decode cX7_readPort 39 = .ok (.ifCond .eq 9, 3) := by decide +kernel
theorem dX7_readPort_42 : decode cX7_readPort 42 = .ok (.sipush 128, 3) := by decide +kernel
theorem dX7_readPort_45 : decode cX7_readPort 45 = .ok (.goto 4, 3) := by decide +kernel
theorem dX7_readPort_48 : decode cX7_readPort 48 = .ok (.iconst 0, 1) := by decide +kernel
theorem dX7_readPort_49 : decode cX7_readPort 49 = .ok (.istore_n 3, 1) := by decide +kernel
theorem dX7_readPort_50 : decode cX7_readPort 50 = .ok (.aload_n 0, 1) := by decide +kernel
theorem dX7_readPort_51 : decode cX7_readPort 51 = .ok (.iconst 0, 1) := by decide +kernel
theorem dX7_readPort_52 : decode cX7_readPort 52 = .ok (.putfield 99, 3) := by decide +kernel
theorem dX7_readPort_55 : decode cX7_readPort 55 = .ok (.aload_n 0, 1) := by decide +kernel
theorem dX7_readPort_56 : decode cX7_readPort 56 = .ok (.iconst 0, 1) := by decide +kernel
theorem dX7_readPort_57 : decode cX7_readPort 57 = .ok (.putfield 95, 3) := by decide +kernel
theorem dX7_readPort_60 : decode cX7_readPort 60 = .ok (.goto 66, 3) := by decide +kernel
theorem dX7_readPort_63 : decode cX7_readPort 63 = .ok (.iload_n 1, 1) := by decide +kernel
theorem dX7_readPort_64 : decode cX7_readPort 64 = .ok (.bipush 38, 2) := by decide +kernel
theorem dX7_readPort_66 : decode cX7_readPort 66 = .ok (.if_icmp .ne 24, 3) := by decide +kernel
theorem dX7_readPort_69 : decode cX7_readPort 69 = .ok (.iload_n 2, 1) := by decide +kernel
theorem dX7_readPort_70 : decode cX7_readPort 70 = .ok (.ifCond .ne 20, 3) := by decide +kernel
theorem dX7_readPort_73 : decode cX7_readPort 73 = .ok (.aload_n 0, 1) := by decide +kernel
theorem dX7_readPort_74 : decode cX7_readPort 74 = .ok (.getfield 89, 3) := by decide +kernel
theorem dX7_readPort_77 : decode cX7_readPort 77 = .ok (.istore_n 3, 1) := by decide +kernel
theorem dX7_readPort_78 : decode cX7_readPort 78 = .ok (.aload_n 0, 1) := by decide +kernel
theorem dX7_readPort_79 : decode cX7_readPort 79 = .ok (.invokevirtual 102, 3) := by decide +kernel
theorem dX7_readPort_82 : decode cX7_readPort 82 = .ok (.aload_n 0, 1) := by decide +kernel
theorem dX7_readPort_83 : decode cX7_readPort 83 = .ok (.iconst 0, 1) := by decide +kernel
theorem dX7_readPort_84 : decode cX7_readPort 84 = .ok (.putfield 105, 3) := by decide +kernel
theorem dX7_readPort_87 : decode cX7_readPort 87 = .ok (.goto 39, 3) := by decide +kernel
theorem dX7_readPort_90 : decode cX7_readPort 90 = .ok (.iload_n 1, 1) := by decide +kernel
theorem dX7_readPort_91 : decode cX7_readPort 91 = .ok (.bipush 38, 2) := by decide +kernel
theorem dX7_readPort_93 : decode cX7_readPort 93 = .ok (.if_icmp .ne 33, 3) := by decide +kernel
theorem dX7_readPort_96 : decode cX7_readPort 96 = .ok (.aload_n 0, 1) := by decide +kernel
theorem dX7_readPort_97 : decode cX7_readPort 97 = .ok (.getfield 86, 3) := by decide +kernel
theorem dX7_readPort_100 : decode cX7_readPort 100 = .ok (.sipush 256, 3) := by decide +kernel
theorem dX7_readPort_103 : decode cX7_readPort 103 = .ok (.idiv, 1) := by decide +kernel
theorem dX7_readPort_104 : decode cX7_readPort 104 = .ok (.istore_n 3, 1) := by decide +kernel
theorem dX7_readPort_105 : decode cX7_readPort 105 = .ok (.aload_n 0, 1) := by decide +kernel
theorem dX7_readPort_106 : decode cX7_readPort 106 = .ok (.aload_n 0, 1) := by decide +kernel
theorem dX7_readPort_107 : decode cX7_readPort 107 = .ok (.getfield 86, 3) := by decide +kernel
theorem dX7_readPort_110 : decode cX7_readPort 110 = .ok (.sipush 256, 3) := by decide +kernel
theorem dX7_readPort_113 : decode cX7_readPort 113 = .ok (.irem, 1) := by decide +kernel
theorem dX7_readPort_114 : decode cX7_readPort 114 = .ok (.sipush 257, 3) := by decide +kernel
theorem dX7_readPort_117 : decode cX7_readPort 117 = .ok (.imul, 1) := by decide +kernel
theorem dX7_readPort_118 : decode cX7_readPort 118 = .ok (.putfield 86, 3) := by decide +kernel
theorem dX7_readPort_121 : decode cX7_readPort 121 = .ok (.aload_n 0, 1) := by decide +kernel
theorem dX7_readPort_122 : decode cX7_readPort 122 = .ok (.iconst 0, 1) := by decide +kernel
theorem dX7_readPort_123 : decode cX7_readPort 123 = .ok (.putfield 105, 3) := by decide +kernel
theorem dX7_readPort_126 : decode cX7_readPort 126 = .ok (.iload_n 3, 1) := by decide +kernel
theorem dX7_readPort_127 : decode cX7_readPort 127 = .ok (.ireturn, 1) := by decide +kernel
theorem dX7_writePort_0 : decode cX7_writePort 0 = .ok (.iload_n 1, 1) := by decide +kernel
theorem dX7_writePort_1 : decode cX7_writePort 1 = .ok (.bipush 35, 2) := by decide +kernel
theorem dX7_writePort_3 : decode cX7_writePort 3 = .ok (.if_icmp .ne 45, 3) := by decide +kernel
theorem dX7_writePort_6 : decode cX7_writePort 6 = .ok (.iload_n 2, 1) := by decide +kernel
theorem dX7_writePort_7 : decode cX7_writePort 7 = .ok (.ifCond .ne 41, 3) := by decide +kernel
theorem dX7_writePort_10 : decode cX7_writePort 10 = .ok (.aload_n 0, 1) := by decide +kernel
theorem dX7_writePort_11 : decode cX7_writePort 11 = .ok (.getfield 17, 3) := by decide +kernel
theorem dX7_writePort_14 : decode cX7_writePort 14 = .ok (.aload_n 0, 1) := by decide +kernel
theorem dX7_writePort_15 : decode cX7_writePort 15 = .ok (.getfield 80, 3) := by decide +kernel
theorem dX7_writePort_18 : decode cX7_writePort 18 = .ok (.iload_n 3, 1) := by decide +kernel
theorem dX7_writePort_19 : decode cX7_writePort 19 = .ok (.i2b, 1) := by decide +kernel
theorem dX7_writePort_20 : decode cX7_writePort 20 = .ok (.bastore, 1) := by decide +kernel
theorem dX7_writePort_21 : decode cX7_writePort 21 = .ok (.aload_n 0, 1) := by decide +kernel
theorem dX7_writePort_22 : decode cX7_writePort 22 = .ok (.iload_n 3, 1) := by decide +kernel
theorem dX7_writePort_23 : decode cX7_writePort 23 = .ok (.putfield 83, 3) := by decide +kernel
theorem dX7_writePort_26 : decode cX7_writePort 26 = .ok (.aload_n 0, 1) := by decide +kernel
theorem dX7_writePort_27 : decode cX7_writePort 27 = .ok (.aload_n 0, 1) := by decide +kernel
theorem dX7_writePort_28 : decode cX7_writePort 28 = .ok (.getfield 80, 3) := by decide +kernel
theorem dX7_writePort_31 : decode cX7_writePort 31 = .ok (.iconst 1, 1) := by decide +kernel
theorem dX7_writePort_32 : decode cX7_writePort 32 = .ok (.iadd, 1) := by decide +kernel
theorem dX7_writePort_33 : decode cX7_writePort 33 = .ok (.sipush 16384, 3) := by decide +kernel
theorem dX7_writePort_36 : decode cX7_writePort 36 = .ok (.irem, 1) := by decide +kernel
theorem dX7_writePort_37 : decode cX7_writePort 37 = .ok (.putfield 80, 3) := by decide +kernel
theorem dX7_writePort_40 : decode cX7_writePort 40 = .ok (.aload_n 0, 1) := by decide +kernel
theorem dX7_writePort_41 : decode cX7_writePort 41 = .ok (.iconst 0, 1) := by decide +kernel
theorem dX7_writePort_42 : decode cX7_writePort 42 = .ok (.putfield 95, 3) := by decide +kernel
theorem dX7_writePort_45 : decode cX7_writePort 45 = .ok (.goto 94, 3) := by decide +kernel
theorem dX7_writePort_48 : decode cX7_writePort 48 = .ok (.iload_n 1, 1) := by decide +kernel
theorem dX7_writePort_49 : decode cX7_writePort 49 = .ok (.bipush 35, 2) := by decide +kernel
theorem dX7_writePort_51 : decode cX7_writePort 51 = .ok (.if_icmp .ne 11, 3) := by decide +kernel
theorem dX7_writePort_54 : decode cX7_writePort 54 = .ok (.aload_n 0, 1) := by decide +kernel
theorem dX7_writePort_55 : decode cX7_writePort 55 = .ok (.iload_n 3, 1) := by decide +kernel
theorem dX7_writePort_56 : decode cX7_writePort 56 = .ok (.invokevirtual 108, 3) := by decide +kernel
theorem dX7_writePort_59 : decode cX7_writePort 59 = .ok (.goto 80, 3) := by decide +kernel
theorem dX7_writePort_62 : decode cX7_writePort 62 = .ok (.iload_n 1, 1) := by decide +kernel
theorem dX7_writePort_63 : decode cX7_writePort 63 = .ok (.bipush 39, 2) := by decide +kernel
theorem dX7_writePort_65 : decode cX7_writePort 65 = .ok (.if_icmp .ne 74, 3) := by decide +kernel
theorem dX7_writePort_68 : decode cX7_writePort 68 = .ok (.iload_n 2, 1) := by decide +kernel
theorem dX7_writePort_69 : decode cX7_writePort 69 = .ok (.iconst 1, 1) := by decide +kernel
theorem dX7_writePort_70 : decode cX7_writePort 70 = .ok (.if_icmp .ne 69, 3) := by decide +kernel
theorem dX7_writePort_73 : decode cX7_writePort 73 = .ok (.aload_n 0, 1) := by decide +kernel
theorem dX7_writePort_74 : decode cX7_writePort 74 = .ok (.getfield 105, 3) := by decide +kernel
theorem dX7_writePort_77 : decode cX7_writePort 77 = .ok (.ifCond .eq 28, 3) := by decide +kernel
theorem dX7_writePort_80 : decode cX7_writePort 80 = .ok (.aload_n 0, 1) := by decide +kernel
theorem dX7_writePort_81 : decode cX7_writePort 81 = .ok (.aload_n 0, 1) := by decide +kernel
theorem dX7_writePort_82 : decode cX7_writePort 82 = .ok (.getfield 86, 3) := by decide +kernel
theorem dX7_writePort_85 : decode cX7_writePort 85 = .ok (.sipush 256, 3) := by decide +kernel
theorem dX7_writePort_88 : decode cX7_writePort 88 = .ok (.idiv, 1) := by decide +kernel
theorem dX7_writePort_89 : decode cX7_writePort 89 = .ok (.sipush 256, 3) := by decide +kernel
theorem dX7_writePort_92 : decode cX7_writePort 92 = .ok (.imul, 1) := by decide +kernel
theorem dX7_writePort_93 : decode cX7_writePort 93 = .ok (.iload_n 3, 1) := by decide +kernel
theorem dX7_writePort_94 : decode cX7_writePort 94 = .ok (.iadd, 1) := by decide +kernel
theorem dX7_writePort_95 : decode cX7_writePort 95 = .ok (.putfield 86, 3) := by decide +kernel
theorem dX7_writePort_98 : decode cX7_writePort 98 = .ok (.aload_n 0, 1) := by decide +kernel
theorem dX7_writePort_99 : decode cX7_writePort 99 = .ok (.invokevirtual 102, 3) := by decide +kernel
theorem dX7_writePort_102 : decode cX7_writePort 102 = .ok (.goto 21, 3) := by decide +kernel
theorem dX7_writePort_105 : decode cX7_writePort 105 = .ok (.aload_n 0, 1) := by decide +kernel
theorem dX7_writePort_106 : decode cX7_writePort 106 = .ok (.sipush 256, 3) := by decide +kernel
theorem dX7_writePort_109 : decode cX7_writePort 109 = .ok (.iload_n 3, 1) := by decide +kernel
theorem dX7_writePort_110 : decode cX7_writePort 110 = .ok (.imul, 1) := by decide +kernel
theorem dX7_writePort_111 : decode cX7_writePort 111 = .ok (.aload_n 0, 1) := by decide +kernel
theorem dX7_writePort_112 : decode cX7_writePort 112 = .ok (.getfield 86, 3) := by decide +kernel
theorem dX7_writePort_115 : decode cX7_writePort 115 = .ok (.sipush 256, 3) := by decide +kernel
theorem dX7_writePort_118 : decode cX7_writePort 118 = .ok (.irem, 1) := by decide +kernel
theorem dX7_writePort_119 : decode cX7_writePort 119 = .ok (.iadd, 1) := by decide +kernel
theorem dX7_writePort_120 : decode cX7_writePort 120 = .ok (.putfield 86, 3) := by decide +kernel
theorem dX7_writePort_123 : decode cX7_writePort 123 = .ok (.aload_n 0, 1) := by decide +kernel
theorem dX7_writePort_124 : decode cX7_writePort 124 = .ok (.aload_n 0, 1) := by decide +kernel
theorem dX7_writePort_125 : decode cX7_writePort 125 = .ok (.getfield 105, 3) := by decide +kernel
theorem dX7_writePort_128 : decode cX7_writePort 128 = .ok (.ifCond .ne 7, 3) := by decide +kernel
theorem dX7_writePort_131 : decode cX7_writePort 131 = .ok (.iconst 1, 1) := by decide +kernel
theorem dX7_writePort_132 : decode cX7_writePort 132 = .ok (.goto 4, 3) := by decide +kernel
theorem dX7_writePort_135 : decode cX7_writePort 135 = .ok (.iconst 0, 1) := by decide +kernel
theorem dX7_writePort_136 : decode cX7_writePort 136 = .ok (.putfield 105, 3) := by decide +kernel
theorem dX7_writePort_139 : decode cX7_writePort 139 = .ok (.return_, 1) := by decide +kernel
theorem dX7_commands_0 : decode cX7_commands 0 = .ok (.aload_n 0, 1) := by decide +kernel
theorem dX7_commands_1 : decode cX7_commands 1 = .ok (.getfield 95, 3) := by decide +kernel
theorem dX7_commands_4 : decode cX7_commands 4 = .ok (.ifCond .ne 14, 3) := by decide +kernel
theorem dX7_commands_7 : decode cX7_commands 7 = .ok (.aload_n 0, 1) := by decide +kernel
theorem dX7_commands_8 : decode cX7_commands 8 = .ok (.iload_n 1, 1) := by decide +kernel
theorem dX7_commands_9 : decode cX7_commands 9 = .ok (.putfield 112, 3) := by decide +kernel
theorem dX7_commands_12 : decode cX7_commands 12 = .ok (.aload_n 0, 1) := by decide +kernel
theorem dX7_commands_13 : decode cX7_commands 13 = .ok (.iconst 1, 1) := by decide +kernel
theorem dX7_commands_14 : decode cX7_commands 14 = .ok (.putfield 95, 3) := by decide +kernel
theorem dX7_commands_17 : decode cX7_commands 17 = .ok (.return_, 1) := by decide +kernel
theorem dX7_commands_18 : decode cX7_commands 18 = .ok (.aload_n 0, 1) := by decide +kernel
theorem dX7_commands_19 : decode cX7_commands 19 = .ok (.iconst 0, 1) := by decide +kernel
theorem dX7_commands_20 : decode cX7_commands 20 = .ok (.putfield 95, 3) := by decide +kernel
theorem dX7_commands_23 : decode cX7_commands 23 = .ok (.iload_n 1, 1) := by decide +kernel
theorem dX7_commands_24 : decode cX7_commands 24 = .ok (.bipush 64, 2) := by decide +kernel
theorem dX7_commands_26 : decode cX7_commands 26 = .ok (.idiv, 1) := by decide +kernel
theorem dX7_commands_27 : decode cX7_commands 27 = .ok (.iconst 2, 1) := by decide +kernel
theorem dX7_commands_28 : decode cX7_commands 28 = .ok (.if_icmp .ne 17, 3) := by decide +kernel
theorem dX7_commands_31 : decode cX7_commands 31 = .ok (.aload_n 0, 1) := by decide +kernel
theorem dX7_commands_32 : decode cX7_commands 32 = .ok (.getfield 23, 3) := by decide +kernel
theorem dX7_commands_35 : decode cX7_commands 35 = .ok (.iload_n 1, 1) := by decide +kernel
theorem dX7_commands_36 : decode cX7_commands 36 = .ok (.bipush 8, 2) := by decide +kernel
theorem dX7_commands_38 : decode cX7_commands 38 = .ok (.irem, 1) := by decide +kernel
theorem dX7_commands_39 : decode cX7_commands 39 = .ok (.aload_n 0, 1) := by decide +kernel
theorem dX7_commands_40 : decode cX7_commands 40 = .ok (.getfield 112, 3) := by decide +kernel
