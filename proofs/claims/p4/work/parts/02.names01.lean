theorem dX0_put_10 : decode cX0_put 10 = .ok (.getfield 7, 3) := by decide +kernel
theorem dX0_put_13 : decode cX0_put 13 = .ok (.arraylength, 1) := by decide +kernel
theorem dX0_put_14 : decode cX0_put 14 = .ok (.if_icmp .lt 4, 3) := by decide +kernel
theorem dX0_put_17 : decode cX0_put 17 = .ok (.return_, 1) := by decide +kernel
theorem dX0_put_18 : decode cX0_put 18 = .ok (.iload_n 1, 1) := by decide +kernel
theorem dX0_put_19 : decode cX0_put 19 = .ok (.bipush 7, 2) := by decide +kernel
theorem dX0_put_21 : decode cX0_put 21 = .ok (.iand, 1) := by decide +kernel
theorem dX0_put_22 : decode cX0_put 22 = .ok (.iconst 3, 1) := by decide +kernel
theorem dX0_put_23 : decode cX0_put 23 = .ok (.ishl, 1) := by decide +kernel
theorem dX0_put_24 : decode cX0_put 24 = .ok (.istore 4, 2) := by decide +kernel
theorem dX0_put_26 : decode cX0_put 26 = .ok (.aload_n 0, 1) := by decide +kernel
theorem dX0_put_27 : decode cX0_put 27 = .ok (.getfield 7, 3) := by decide +kernel
theorem dX0_put_30 : decode cX0_put 30 = .ok (.iload_n 3, 1) := by decide +kernel
theorem dX0_put_31 : decode cX0_put 31 = .ok (.laload, 1) := by decide +kernel
theorem dX0_put_32 : decode cX0_put 32 = .ok (.ldc2_w 13, 3) := by decide +kernel
theorem dX0_put_35 : decode cX0_put 35 = .ok (.iload 4, 2) := by decide +kernel
theorem dX0_put_37 : decode cX0_put 37 = .ok (.lshl, 1) := by decide +kernel
theorem dX0_put_38 : decode cX0_put 38 = .ok (.ldc2_w 15, 3) := by decide +kernel
theorem dX0_put_41 : decode cX0_put 41 = .ok (.lxor, 1) := by decide +kernel
theorem dX0_put_42 : decode cX0_put 42 = .ok (.land, 1) := by decide +kernel
theorem dX0_put_43 : decode cX0_put 43 = .ok (.lstore 5, 2) := by decide +kernel
theorem dX0_put_45 : decode cX0_put 45 = .ok (.aload_n 0, 1) := by decide +kernel
theorem dX0_put_46 : decode cX0_put 46 = .ok (.getfield 7, 3) := by decide +kernel
theorem dX0_put_49 : decode cX0_put 49 = .ok (.iload_n 3, 1) := by decide +kernel
theorem dX0_put_50 : decode cX0_put 50 = .ok (.lload 5, 2) := by decide +kernel
theorem dX0_put_52 : decode cX0_put 52 = .ok (.iload_n 2, 1) := by decide +kernel
theorem dX0_put_53 : decode cX0_put 53 = .ok (.sipush 255, 3) := by decide +kernel
theorem dX0_put_56 : decode cX0_put 56 = .ok (.iand, 1) := by decide +kernel
theorem dX0_put_57 : decode cX0_put 57 = .ok (.i2l, 1) := by decide +kernel
theorem dX0_put_58 : decode cX0_put 58 = .ok (.iload 4, 2) := by decide +kernel
theorem dX0_put_60 : decode cX0_put 60 = .ok (.lshl, 1) := by decide +kernel
theorem dX0_put_61 : decode cX0_put 61 = .ok (.lor, 1) := by decide +kernel
theorem dX0_put_62 : decode cX0_put 62 = .ok (.lastore, 1) := by decide +kernel
theorem dX0_put_63 : decode cX0_put 63 = .ok (.return_, 1) := by decide +kernel
theorem dX1_init_0 : decode cX1_init 0 = .ok (.aload_n 0, 1) := by decide +kernel
theorem dX1_init_1 : decode cX1_init 1 = .ok (.invokespecial 3, 3) := by decide +kernel
theorem dX1_init_4 : decode cX1_init 4 = .ok (.aload_n 0, 1) := by decide +kernel
theorem dX1_init_5 : decode cX1_init 5 = .ok (.new 9, 3) := by decide +kernel
theorem dX1_init_8 : decode cX1_init 8 = .ok (.dup, 1) := by decide +kernel
theorem dX1_init_9 : decode cX1_init 9 = .ok (.sipush 8192, 3) := by decide +kernel
theorem dX1_init_12 : decode cX1_init 12 = .ok (.invokespecial 11, 3) := by decide +kernel
theorem dX1_init_15 : decode cX1_init 15 = .ok (.putfield 14, 3) := by decide +kernel
theorem dX1_init_18 : decode cX1_init 18 = .ok (.return_, 1) := by decide +kernel
theorem dX1_readData_0 : decode cX1_readData 0 = .ok (.aload_n 0, 1) := by decide +kernel
theorem dX1_readData_1 : decode cX1_readData 1 = .ok (.getfield 20, 3) := by decide +kernel
theorem dX1_readData_4 : decode cX1_readData 4 = .ok (.istore_n 1, 1) := by decide +kernel
theorem dX1_readData_5 : decode cX1_readData 5 = .ok (.aload_n 0, 1) := by decide +kernel
theorem dX1_readData_6 : decode cX1_readData 6 = .ok (.aload_n 0, 1) := by decide +kernel
theorem dX1_readData_7 : decode cX1_readData 7 = .ok (.getfield 24, 3) := by decide +kernel
theorem dX1_readData_10 : decode cX1_readData 10 = .ok (.sipush 8192, 3) := by decide +kernel
theorem dX1_readData_13 : decode cX1_readData 13 = .ok (.if_icmp .ge 17, 3) := by decide +kernel
theorem dX1_readData_16 : decode cX1_readData 16 = .ok (.aload_n 0, 1) := by decide +kernel
theorem dX1_readData_17 : decode cX1_readData 17 = .ok (.getfield 14, 3) := by decide +kernel
theorem dX1_readData_20 : decode cX1_readData 20 = .ok (.aload_n 0, 1) := by decide +kernel
theorem dX1_readData_21 : decode cX1_readData 21 = .ok (.getfield 24, 3) := by decide +kernel
theorem dX1_readData_24 : decode cX1_readData 24 = .ok (.invokevirtual 27, 3) := by decide +kernel
theorem dX1_readData_27 : decode cX1_readData 27 = .ok (.goto 4, 3) := by decide +kernel
theorem dX1_readData_30 : decode cX1_readData 30 = .ok (.iconst 0, 1) := by decide +kernel
theorem dX1_readData_31 : decode cX1_readData 31 = .ok (.putfield 20, 3) := by decide +kernel
theorem dX1_readData_34 : decode cX1_readData 34 = .ok (.aload_n 0, 1) := by decide +kernel
theorem dX1_readData_35 : decode cX1_readData 35 = .ok (.aload_n 0, 1) := by decide +kernel
theorem dX1_readData_36 : decode cX1_readData 36 = .ok (.getfield 24, 3) := by decide +kernel
theorem dX1_readData_39 : decode cX1_readData 39 = .ok (.ldc 31, 2) := by decide +kernel
theorem dX1_readData_41 : decode cX1_readData 41 = .ok (.iand, 1) := by decide +kernel
theorem dX1_readData_42 : decode cX1_readData 42 = .ok (.aload_n 0, 1) := by decide +kernel
theorem dX1_readData_43 : decode cX1_readData 43 = .ok (.getfield 24, 3) := by decide +kernel
theorem dX1_readData_46 : decode cX1_readData 46 = .ok (.iconst 1, 1) := by decide +kernel
theorem dX1_readData_47 : decode cX1_readData 47 = .ok (.iadd, 1) := by decide +kernel
theorem dX1_readData_48 : decode cX1_readData 48 = .ok (.sipush 8191, 3) := by decide +kernel
theorem dX1_readData_51 : decode cX1_readData 51 = .ok (.iand, 1) := by decide +kernel
theorem dX1_readData_52 : decode cX1_readData 52 = .ok (.ior, 1) := by decide +kernel
theorem dX1_readData_53 : decode cX1_readData 53 = .ok (.putfield 24, 3) := by decide +kernel
theorem dX1_readData_56 : decode cX1_readData 56 = .ok (.aload_n 0, 1) := by decide +kernel
theorem dX1_readData_57 : decode cX1_readData 57 = .ok (.iconst 0, 1) := by decide +kernel
theorem dX1_readData_58 : decode cX1_readData 58 = .ok (.putfield 32, 3) := by decide +kernel
theorem dX1_readData_61 : decode cX1_readData 61 = .ok (.iload_n 1, 1) := by decide +kernel
theorem dX1_readData_62 : decode cX1_readData 62 = .ok (.ireturn, 1) := by decide +kernel
theorem dX1_readAddress_0 : decode cX1_readAddress 0 = .ok (.aload_n 0, 1) := by decide +kernel
theorem dX1_readAddress_1 : decode cX1_readAddress 1 = .ok (.getfield 24, 3) := by decide +kernel
theorem dX1_readAddress_4 : decode cX1_readAddress 4 = .ok (.bipush 8, 2) := by decide +kernel
theorem dX1_readAddress_6 : decode cX1_readAddress 6 = .ok (.ishr, 1) := by decide +kernel
theorem dX1_readAddress_7 : decode cX1_readAddress 7 = .ok (.istore_n 1, 1) := by decide +kernel
theorem dX1_readAddress_8 : decode cX1_readAddress 8 = .ok (.aload_n 0, 1) := by decide +kernel
theorem dX1_readAddress_9 : decode cX1_readAddress 9 = .ok (.aload_n 0, 1) := by decide +kernel
theorem dX1_readAddress_10 : decode cX1_readAddress 10 = .ok (.getfield 24, 3) := by decide +kernel
theorem dX1_readAddress_13 : decode cX1_readAddress 13 = .ok (.sipush 255, 3) := by decide +kernel
theorem dX1_readAddress_16 : decode cX1_readAddress 16 = .ok (.iand, 1) := by decide +kernel
theorem dX1_readAddress_17 : decode cX1_readAddress 17 = .ok (.sipush 257, 3) := by decide +kernel
theorem dX1_readAddress_20 : decode cX1_readAddress 20 = .ok (.imul, 1) := by decide +kernel
theorem dX1_readAddress_21 : decode cX1_readAddress 21 = .ok (.putfield 24, 3) := by decide +kernel
theorem dX1_readAddress_24 : decode cX1_readAddress 24 = .ok (.aload_n 0, 1) := by decide +kernel
theorem dX1_readAddress_25 : decode cX1_readAddress 25 = .ok (.iconst 0, 1) := by decide +kernel
theorem dX1_readAddress_26 : decode cX1_readAddress 26 = .ok (.putfield 32, 3) := by decide +kernel
theorem dX1_readAddress_29 : decode cX1_readAddress 29 = .ok (.iload_n 1, 1) := by decide +kernel
theorem dX1_readAddress_30 : decode cX1_readAddress 30 = .ok (.ireturn, 1) := by decide +kernel
theorem dX1_writeAddress_0 : decode cX1_writeAddress 0 = .ok (.aload_n 0, 1) := by decide +kernel
theorem dX1_writeAddress_1 : decode cX1_writeAddress 1 = .ok (.getfield 32, 3) := by decide +kernel
theorem dX1_writeAddress_4 : decode cX1_writeAddress 4 = .ok (.ifCond .ne 26, 3) := by decide +kernel
theorem dX1_writeAddress_7 : decode cX1_writeAddress 7 = .ok (.aload_n 0, 1) := by decide +kernel
theorem dX1_writeAddress_8 : decode cX1_writeAddress 8 = .ok (.iconst 1, 1) := by decide +kernel
theorem dX1_writeAddress_9 : decode cX1_writeAddress 9 = .ok (.putfield 32, 3) := by decide +kernel
theorem dX1_writeAddress_12 : decode cX1_writeAddress 12 = .ok (.aload_n 0, 1) := by decide +kernel
theorem dX1_writeAddress_13 : decode cX1_writeAddress 13 = .ok (.iload_n 1, 1) := by decide +kernel
theorem dX1_writeAddress_14 : decode cX1_writeAddress 14 = .ok (.bipush 8, 2) := by decide +kernel
theorem dX1_writeAddress_16 : decode cX1_writeAddress 16 = .ok (.ishl, 1) := by decide +kernel
theorem dX1_writeAddress_17 : decode cX1_writeAddress 17 = .ok (.aload_n 0, 1) := by decide +kernel
theorem dX1_writeAddress_18 : decode cX1_writeAddress 18 = .ok (.getfield 24, 3) := by decide +kernel
theorem dX1_writeAddress_21 : decode cX1_writeAddress 21 = .ok (.sipush 255, 3) := by decide +kernel
theorem dX1_writeAddress_24 : decode cX1_writeAddress 24 = .ok (.iand, 1) := by decide +kernel
theorem dX1_writeAddress_25 : decode cX1_writeAddress 25 = .ok (.ior, 1) := by decide +kernel
theorem dX1_writeAddress_26 : decode cX1_writeAddress 26 = .ok (.putfield 24, 3) := by decide +kernel
theorem dX1_writeAddress_29 : decode cX1_writeAddress 29 = .ok (.return_, 1) := by decide +kernel
theorem dX1_writeAddress_30 : decode cX1_writeAddress 30 = .ok (.aload_n 0, 1) := by decide +kernel
theorem dX1_writeAddress_31 : decode cX1_writeAddress 31 = .ok (.iconst 0, 1) := by decide +kernel
theorem dX1_writeAddress_32 : decode cX1_writeAddress 32 = .ok (.putfield 32, 3) := by decide +kernel
theorem dX1_writeAddress_35 : decode cX1_writeAddress 35 = .ok (.aload_n 0, 1) := by decide +kernel
theorem dX1_writeAddress_36 : decode cX1_writeAddress 36 = .ok (.aload_n 0, 1) := by decide +kernel
theorem dX1_writeAddress_37 : decode cX1_writeAddress 37 = .ok (.getfield 24, 3) := by decide +kernel
theorem dX1_writeAddress_40 : decode cX1_writeAddress 40 = .ok (.ldc 36, 2) := by decide +kernel
theorem dX1_writeAddress_42 : decode cX1_writeAddress 42 = .ok (.iand, 1) := by decide +kernel
theorem dX1_writeAddress_43 : decode cX1_writeAddress 43 = .ok (.iload_n 1, 1) := by decide +kernel
theorem dX1_writeAddress_44 : decode cX1_writeAddress 44 = .ok (.ior, 1) := by decide +kernel
theorem dX1_writeAddress_45 : decode cX1_writeAddress 45 = .ok (.putfield 24, 3) := by decide +kernel
theorem dX1_writeAddress_48 : decode cX1_writeAddress 48 = .ok (.aload_n 0, 1) := by decide +kernel
theorem dX1_writeAddress_49 : decode cX1_writeAddress 49 = .ok (.aload_n 0, 1) := by decide +kernel
theorem dX1_writeAddress_50 : decode cX1_writeAddress 50 = .ok (.getfield 24, 3) := by decide +kernel
theorem dX1_writeAddress_53 : decode cX1_writeAddress 53 = .ok (.sipush 8192, 3) := by decide +kernel
theorem dX1_writeAddress_56 : decode cX1_writeAddress 56 = .ok (.if_icmp .ge 17, 3) := by decide +kernel
theorem dX1_writeAddress_59 : decode cX1_writeAddress 59 = .ok (.aload_n 0, 1) := by decide +kernel
theorem dX1_writeAddress_60 : decode cX1_writeAddress 60 = .ok (.getfield 14, 3) := by decide +kernel
theorem dX1_writeAddress_63 : decode cX1_writeAddress 63 = .ok (.aload_n 0, 1) := by decide +kernel
theorem dX1_writeAddress_64 : decode cX1_writeAddress 64 = .ok (.getfield 24, 3) := by decide +kernel
theorem dX1_writeAddress_67 : decode cX1_writeAddress 67 = .ok (.invokevirtual 27, 3) := by decide +kernel
theorem dX1_writeAddress_70 : decode cX1_writeAddress 70 = .ok (.goto 4, 3) := by decide +kernel
theorem dX1_writeAddress_73 : decode cX1_writeAddress 73 = .ok (.iconst 0, 1) := by decide +kernel
theorem dX1_writeAddress_74 : decode cX1_writeAddress 74 = .ok (.putfield 20, 3) := by decide +kernel
theorem dX1_writeAddress_77 : decode cX1_writeAddress 77 = .ok (.aload_n 0, 1) := by decide +kernel
theorem dX1_writeAddress_78 : decode cX1_writeAddress 78 = .ok (.aload_n 0, 1) := by decide +kernel
theorem dX1_writeAddress_79 : decode cX1_writeAddress 79 = .ok (.getfield 24, 3) := by decide +kernel
theorem dX1_writeAddress_82 : decode cX1_writeAddress 82 = .ok (.ldc 31, 2) := by decide +kernel
theorem dX1_writeAddress_84 : decode cX1_writeAddress 84 = .ok (.iand, 1) := by decide +kernel
theorem dX1_writeAddress_85 : decode cX1_writeAddress 85 = .ok (.aload_n 0, 1) := by decide +kernel
theorem dX1_writeAddress_86 : decode cX1_writeAddress 86 = .ok (.getfield 24, 3) := by decide +kernel
theorem dX1_writeAddress_89 : decode cX1_writeAddress 89 = .ok (.iconst 1, 1) := by decide +kernel
theorem dX1_writeAddress_90 : decode cX1_writeAddress 90 = .ok (.iadd, 1) := by decide +kernel
theorem dX1_writeAddress_91 : decode cX1_writeAddress 91 = .ok (.sipush 8191, 3) := by decide +kernel
theorem dX1_writeAddress_94 : decode cX1_writeAddress 94 = .ok (.iand, 1) := by decide +kernel
theorem dX1_writeAddress_95 : decode cX1_writeAddress 95 = .ok (.ior, 1) := by decide +kernel
theorem dX1_writeAddress_96 : decode cX1_writeAddress 96 = .ok (.putfield 24, 3) := by decide +kernel
theorem dX1_writeAddress_99 : decode cX1_writeAddress 99 = .ok (.return_, 1) := by decide +kernel
theorem dX2_init_0 : decode cX2_init 0 = .ok (.aload_n 0, 1) := by decide +kernel
theorem dX2_init_1 : decode cX2_init 1 = .ok (.invokespecial 3, 3) := by decide +kernel
theorem dX2_init_4 : decode cX2_init 4 = .ok (.aload_n 0, 1) := by decide +kernel
theorem dX2_init_5 : decode cX2_init 5 = .ok (.new 9, 3) := by decide +kernel
theorem dX2_init_8 : decode cX2_init 8 = .ok (.dup, 1) := by decide +kernel
theorem dX2_init_9 : decode cX2_init 9 = .ok (.sipush 8192, 3) := by decide +kernel
theorem dX2_init_12 : decode cX2_init 12 = .ok (.invokespecial 11, 3) := by decide +kernel
theorem dX2_init_15 : decode cX2_init 15 = .ok (.putfield 14, 3) := by decide +kernel
theorem dX2_init_18 : decode cX2_init 18 = .ok (.aload_n 0, 1) := by decide +kernel
theorem dX2_init_19 : decode cX2_init 19 = .ok (.new 9, 3) := by decide +kernel
theorem dX2_init_22 : decode cX2_init 22 = .ok (.dup, 1) := by decide +kernel
theorem dX2_init_23 : decode cX2_init 23 = .ok (.ldc 20, 2) := by decide +kernel
theorem dX2_init_25 : decode cX2_init 25 = .ok (.invokespecial 11, 3) := by decide +kernel
theorem dX2_init_28 : decode cX2_init 28 = .ok (.putfield 21, 3) := by decide +kernel
theorem dX2_init_31 : decode cX2_init 31 = .ok (.aload_n 0, 1) := by decide +kernel
theorem dX2_init_32 : decode cX2_init 32 = .ok (.new 9, 3) := by decide +kernel
theorem dX2_init_35 : decode cX2_init 35 = .ok (.dup, 1) := by decide +kernel
theorem dX2_init_36 : decode cX2_init 36 = .ok (.sipush 256, 3) := by decide +kernel
theorem dX2_init_39 : decode cX2_init 39 = .ok (.invokespecial 11, 3) := by decide +kernel
theorem dX2_init_42 : decode cX2_init 42 = .ok (.putfield 24, 3) := by decide +kernel
theorem dX2_init_45 : decode cX2_init 45 = .ok (.aload_n 0, 1) := by decide +kernel
theorem dX2_init_46 : decode cX2_init 46 = .ok (.aload_n 1, 1) := by decide +kernel
theorem dX2_init_47 : decode cX2_init 47 = .ok (.putfield 27, 3) := by decide +kernel
theorem dX2_init_50 : decode cX2_init 50 = .ok (.aload_n 0, 1) := by decide +kernel
theorem dX2_init_51 : decode cX2_init 51 = .ok (.aload_n 2, 1) := by decide +kernel
theorem dX2_init_52 : decode cX2_init 52 = .ok (.putfield 31, 3) := by decide +kernel
theorem dX2_init_55 : decode cX2_init 55 = .ok (.return_, 1) := by decide +kernel
theorem dX2_wordAt_0 : decode cX2_wordAt 0 = .ok (.aload_n 0, 1) := by decide +kernel
theorem dX2_wordAt_1 : decode cX2_wordAt 1 = .ok (.iload_n 1, 1) := by decide +kernel
theorem dX2_wordAt_2 : decode cX2_wordAt 2 = .ok (.ldc 37, 2) := by decide +kernel
theorem dX2_wordAt_4 : decode cX2_wordAt 4 = .ok (.iand, 1) := by decide +kernel
theorem dX2_wordAt_5 : decode cX2_wordAt 5 = .ok (.invokevirtual 38, 3) := by decide +kernel
theorem dX2_wordAt_8 : decode cX2_wordAt 8 = .ok (.istore_n 2, 1) := by decide +kernel
theorem dX2_wordAt_9 : decode cX2_wordAt 9 = .ok (.iload_n 2, 1) := by decide +kernel
theorem dX2_wordAt_10 : decode cX2_wordAt 10 = .ok (.bipush 8, 2) := by decide +kernel
theorem dX2_wordAt_12 : decode cX2_wordAt 12 = .ok (.ishl, 1) := by decide +kernel
theorem dX2_wordAt_13 : decode cX2_wordAt 13 = .ok (.aload_n 0, 1) := by decide +kernel
theorem dX2_wordAt_14 : decode cX2_wordAt 14 = .ok (.iload_n 1, 1) := by decide +kernel
theorem dX2_wordAt_15 : decode cX2_wordAt 15 = .ok (.iconst 1, 1) := by decide +kernel
theorem dX2_wordAt_16 : decode cX2_wordAt 16 = .ok (.ior, 1) := by decide +kernel
theorem dX2_wordAt_17 : decode cX2_wordAt 17 = .ok (.invokevirtual 38, 3) := by decide +kernel
theorem dX2_wordAt_20 : decode cX2_wordAt 20 = .ok (.ior, 1) := by decide +kernel
theorem dX2_wordAt_21 : decode cX2_wordAt 21 = .ok (.ireturn, 1) := by decide +kernel
theorem dX2_putWord_0 : decode cX2_putWord 0 = .ok (.aload_n 0, 1) := by decide +kernel
theorem dX2_putWord_1 : decode cX2_putWord 1 = .ok (.iload_n 1, 1) := by decide +kernel
theorem dX2_putWord_2 : decode cX2_putWord 2 = .ok (.ldc 37, 2) := by decide +kernel
theorem dX2_putWord_4 : decode cX2_putWord 4 = .ok (.iand, 1) := by decide +kernel
theorem dX2_putWord_5 : decode cX2_putWord 5 = .ok (.iload_n 2, 1) := by decide +kernel
theorem dX2_putWord_6 : decode cX2_putWord 6 = .ok (.bipush 8, 2) := by decide +kernel
theorem dX2_putWord_8 : decode cX2_putWord 8 = .ok (.ishr, 1) := by decide +kernel
theorem dX2_putWord_9 : decode cX2_putWord 9 = .ok (.invokevirtual 42, 3) := by decide +kernel
theorem dX2_putWord_12 : decode cX2_putWord 12 = .ok (.aload_n 0, 1) := by decide +kernel
theorem dX2_putWord_13 : decode cX2_putWord 13 = .ok (.iload_n 1, 1) := by decide +kernel
theorem dX2_putWord_14 : decode cX2_putWord 14 = .ok (.iconst 1, 1) := by decide +kernel
theorem dX2_putWord_15 : decode cX2_putWord 15 = .ok (.ior, 1) := by decide +kernel
theorem dX2_putWord_16 : decode cX2_putWord 16 = .ok (.iload_n 2, 1) := by decide +kernel
theorem dX2_putWord_17 : decode cX2_putWord 17 = .ok (.invokevirtual 42, 3) := by decide +kernel
theorem dX2_putWord_20 : decode cX2_putWord 20 = .ok (.return_, 1) := by decide +kernel
theorem dX2_byteAt_0 : decode cX2_byteAt 0 = .ok (.iload_n 1, 1) := by decide +kernel
theorem dX2_byteAt_1 : decode cX2_byteAt 1 = .ok (.ldc 46, 2) := by decide +kernel
theorem dX2_byteAt_3 : decode cX2_byteAt 3 = .ok (.iand, 1) := by decide +kernel
theorem dX2_byteAt_4 : decode cX2_byteAt 4 = .ok (.istore_n 2, 1) := by decide +kernel
theorem dX2_byteAt_5 : decode cX2_byteAt 5 = .ok (.iload_n 2, 1) := by decide +kernel
theorem dX2_byteAt_6 : decode cX2_byteAt 6 = .ok (.iconst 2, 1) := by decide +kernel
theorem dX2_byteAt_7 : decode cX2_byteAt 7 = .ok (.iand, 1) := by decide +kernel
theorem dX2_byteAt_8 : decode cX2_byteAt 8 = .ok (.ifCond .eq 7, 3) := by decide +kernel
theorem dX2_byteAt_11 : decode cX2_byteAt 11 = .ok (.iconst 1, 1) := by decide +kernel
theorem dX2_byteAt_12 : decode cX2_byteAt 12 = .ok (.goto 4, 3) := by decide +kernel
theorem dX2_byteAt_15 : decode cX2_byteAt 15 = .ok (.iconst 0, 1) := by decide +kernel
theorem dX2_byteAt_16 : decode cX2_byteAt 16 = .ok (.istore_n 3, 1) := by decide +kernel
theorem dX2_byteAt_17 : decode cX2_byteAt 17 = .ok (.iload_n 2, 1) := by decide +kernel
theorem dX2_byteAt_18 : decode cX2_byteAt 18 = .ok (.ldc 47, 2) := by decide +kernel
theorem dX2_byteAt_20 : decode cX2_byteAt 20 = .ok (.iand, 1) := by decide +kernel
theorem dX2_byteAt_21 : decode cX2_byteAt 21 = .ok (.lookupswitch 71 #[(34816, 27), (38912, 49)], 27) := by decide +kernel
theorem dX2_byteAt_48 : decode cX2_byteAt 48 = .ok (.iload_n 3, 1) := by decide +kernel
theorem dX2_byteAt_49 : decode cX2_byteAt 49 = .ok (.ifCond .eq 13, 3) := by decide +kernel
theorem dX2_byteAt_52 : decode cX2_byteAt 52 = .ok (.aload_n 0, 1) := by decide +kernel
theorem dX2_byteAt_53 : decode cX2_byteAt 53 = .ok (.getfield 27, 3) := by decide +kernel
theorem dX2_byteAt_56 : decode cX2_byteAt 56 = .ok (.invokevirtual 48, 3) := by decide +kernel
theorem dX2_byteAt_59 : decode cX2_byteAt 59 = .ok (.goto 10, 3) := by decide +kernel
theorem dX2_byteAt_62 : decode cX2_byteAt 62 = .ok (.aload_n 0, 1) := by decide +kernel
theorem dX2_byteAt_63 : decode cX2_byteAt 63 = .ok (.getfield 27, 3) := by decide +kernel
theorem dX2_byteAt_66 : decode cX2_byteAt 66 = .ok (.invokevirtual 54, 3) := by decide +kernel
theorem dX2_byteAt_69 : decode cX2_byteAt 69 = .ok (.ireturn, 1) := by decide +kernel
theorem dX2_byteAt_70 : decode cX2_byteAt 70 = .ok (.iload_n 3, 1) := by decide +kernel
theorem dX2_byteAt_71 : decode cX2_byteAt 71 = .ok (.ifCond .eq 13, 3) := by decide +kernel
theorem dX2_byteAt_74 : decode cX2_byteAt 74 = .ok (.aload_n 0, 1) := by decide +kernel
theorem dX2_byteAt_75 : decode cX2_byteAt 75 = .ok (.getfield 31, 3) := by decide +kernel
theorem dX2_byteAt_78 : decode cX2_byteAt 78 = .ok (.invokevirtual 57, 3) := by decide +kernel
theorem dX2_byteAt_81 : decode cX2_byteAt 81 = .ok (.goto 10, 3) := by decide +kernel
theorem dX2_byteAt_84 : decode cX2_byteAt 84 = .ok (.aload_n 0, 1) := by decide +kernel
theorem dX2_byteAt_85 : decode cX2_byteAt 85 = .ok (.getfield 31, 3) := by decide +kernel
theorem dX2_byteAt_88 : decode cX2_byteAt 88 = .ok (.invokevirtual 62, 3) := by decide +kernel
theorem dX2_byteAt_91 : decode cX2_byteAt 91 = .ok (.ireturn, 1) := by decide +kernel
theorem dX2_byteAt_92 : decode cX2_byteAt 92 = .ok (.aload_n 0, 1) := by decide +kernel
theorem dX2_byteAt_93 : decode cX2_byteAt 93 = .ok (.iload_n 2, 1) := by decide +kernel
theorem dX2_byteAt_94 : decode cX2_byteAt 94 = .ok (.invokevirtual 63, 3) := by decide +kernel
theorem dX2_byteAt_97 : decode cX2_byteAt 97 = .ok (.ireturn, 1) := by decide +kernel
theorem dX2_putByte_0 : decode cX2_putByte 0 = .ok (.iload_n 1, 1) := by decide +kernel
theorem dX2_putByte_1 : decode cX2_putByte 1 = .ok (.ldc 46, 2) := by decide +kernel
theorem dX2_putByte_3 : decode cX2_putByte 3 = .ok (.iand, 1) := by decide +kernel
theorem dX2_putByte_4 : decode cX2_putByte 4 = .ok (.istore_n 3, 1) := by decide +kernel
theorem dX2_putByte_5 : decode cX2_putByte 5 = .ok (.iload_n 3, 1) := by decide +kernel
theorem dX2_putByte_6 : decode cX2_putByte 6 = .ok (.iconst 2, 1) := by decide +kernel
theorem dX2_putByte_7 : decode cX2_putByte 7 = .ok (.iand, 1) := by decide +kernel
theorem dX2_putByte_8 : decode cX2_putByte 8 = .ok (.ifCond .eq 7, 3) := by decide +kernel
theorem dX2_putByte_11 : decode cX2_putByte 11 = .ok (.iconst 1, 1) := by decide +kernel
theorem dX2_putByte_12 : decode cX2_putByte 12 = .ok (.goto 4, 3) := by decide +kernel
theorem dX2_putByte_15 : decode cX2_putByte 15 = .ok (.iconst 0, 1) := by decide +kernel
theorem dX2_putByte_16 : decode cX2_putByte 16 = .ok (.istore 4, 2) := by decide +kernel
theorem dX2_putByte_18 : decode cX2_putByte 18 = .ok (.iload_n 2, 1) := by decide +kernel
theorem dX2_putByte_19 : decode cX2_putByte 19 = .ok (.sipush 255, 3) := by decide +kernel
theorem dX2_putByte_22 : decode cX2_putByte 22 = .ok (.iand, 1) := by decide +kernel
theorem dX2_putByte_23 : decode cX2_putByte 23 = .ok (.istore 5, 2) := by decide +kernel
theorem dX2_putByte_25 : decode cX2_putByte 25 = .ok (.iload_n 3, 1) := by decide +kernel
theorem dX2_putByte_26 : decode cX2_putByte 26 = .ok (.ldc 47, 2) := by decide +kernel
theorem dX2_putByte_28 : decode cX2_putByte 28 = .ok (.iand, 1) := by decide +kernel
theorem dX2_putByte_29 : decode cX2_putByte 29 = .ok (.lookupswitch 73 #[(35840, 27), (39936, 56)], 27) := by decide +kernel
theorem dX2_putByte_56 : decode cX2_putByte 56 = .ok (.iload 4, 2) := by decide +kernel
theorem dX2_putByte_58 : decode cX2_putByte 58 = .ok (.ifCond .eq 15, 3) := by decide +kernel
theorem dX2_putByte_61 : decode cX2_putByte 61 = .ok (.aload_n 0, 1) := by decide +kernel
theorem dX2_putByte_62 : decode cX2_putByte 62 = .ok (.getfield 27, 3) := by decide +kernel
theorem dX2_putByte_65 : decode cX2_putByte 65 = .ok (.iload 5, 2) := by decide +kernel
theorem dX2_putByte_67 : decode cX2_putByte 67 = .ok (.invokevirtual 66, 3) := by decide +kernel
theorem dX2_putByte_70 : decode cX2_putByte 70 = .ok (.goto 39, 3) := by decide +kernel
theorem dX2_putByte_73 : decode cX2_putByte 73 = .ok (.aload_n 0, 1) := by decide +kernel
theorem dX2_putByte_74 : decode cX2_putByte 74 = .ok (.getfield 27, 3) := by decide +kernel
theorem dX2_putByte_77 : decode cX2_putByte 77 = .ok (.iload 5, 2) := by decide +kernel
theorem dX2_putByte_79 : decode cX2_putByte 79 = .ok (.invokevirtual 69, 3) := by decide +kernel
theorem dX2_putByte_82 : decode cX2_putByte 82 = .ok (.goto 27, 3) := by decide +kernel
theorem dX2_putByte_85 : decode cX2_putByte 85 = .ok (.iload 4, 2) := by decide +kernel
theorem dX2_putByte_87 : decode cX2_putByte 87 = .ok (.ifCond .eq 22, 3) := by decide +kernel
theorem dX2_putByte_90 : decode cX2_putByte 90 = .ok (.aload_n 0, 1) := by decide +kernel
theorem dX2_putByte_91 : decode cX2_putByte 91 = .ok (.getfield 31, 3) := by decide +kernel
theorem dX2_putByte_94 : decode cX2_putByte 94 = .ok (.iload 5, 2) := by decide +kernel
theorem dX2_putByte_96 : decode cX2_putByte 96 = .ok (.invokevirtual 72, 3) := by decide +kernel
theorem dX2_putByte_99 : decode cX2_putByte 99 = .ok (.goto 10, 3) := by decide +kernel
theorem dX2_putByte_102 : decode cX2_putByte 102 = .ok (.aload_n 0, 1) := by decide +kernel
theorem dX2_putByte_103 : decode cX2_putByte 103 = .ok (.iload_n 3, 1) := by decide +kernel
theorem dX2_putByte_104 : decode cX2_putByte 104 = .ok (.iload 5, 2) := by decide +kernel
theorem dX2_putByte_106 : decode cX2_putByte 106 = .ok (.invokevirtual 75, 3) := by decide +kernel
theorem dX2_putByte_109 : decode cX2_putByte 109 = .ok (.return_, 1) := by decide +kernel
theorem dX2_storedAt_0 : decode cX2_storedAt 0 = .ok (.iload_n 1, 1) := by decide +kernel
theorem dX2_storedAt_1 : decode cX2_storedAt 1 = .ok (.sipush 8192, 3) := by decide +kernel
theorem dX2_storedAt_4 : decode cX2_storedAt 4 = .ok (.if_icmp .ge 12, 3) := by decide +kernel
theorem dX2_storedAt_7 : decode cX2_storedAt 7 = .ok (.aload_n 0, 1) := by decide +kernel
theorem dX2_storedAt_8 : decode cX2_storedAt 8 = .ok (.getfield 14, 3) := by decide +kernel
theorem dX2_storedAt_11 : decode cX2_storedAt 11 = .ok (.iload_n 1, 1) := by decide +kernel
theorem dX2_storedAt_12 : decode cX2_storedAt 12 = .ok (.invokevirtual 78, 3) := by decide +kernel
theorem dX2_storedAt_15 : decode cX2_storedAt 15 = .ok (.ireturn, 1) := by decide +kernel
theorem dX2_storedAt_16 : decode cX2_storedAt 16 = .ok (.iload_n 1, 1) := by decide +kernel
theorem dX2_storedAt_17 : decode cX2_storedAt 17 = .ok (.sipush 16384, 3) := by decide +kernel
theorem dX2_storedAt_20 : decode cX2_storedAt 20 = .ok (.if_icmp .ge 16, 3) := by decide +kernel
theorem dX2_storedAt_23 : decode cX2_storedAt 23 = .ok (.aload_n 0, 1) := by decide +kernel
theorem dX2_storedAt_24 : decode cX2_storedAt 24 = .ok (.getfield 21, 3) := by decide +kernel
theorem dX2_storedAt_27 : decode cX2_storedAt 27 = .ok (.iload_n 1, 1) := by decide +kernel
theorem dX2_storedAt_28 : decode cX2_storedAt 28 = .ok (.sipush 8192, 3) := by decide +kernel
theorem dX2_storedAt_31 : decode cX2_storedAt 31 = .ok (.isub, 1) := by decide +kernel
theorem dX2_storedAt_32 : decode cX2_storedAt 32 = .ok (.invokevirtual 78, 3) := by decide +kernel
theorem dX2_storedAt_35 : decode cX2_storedAt 35 = .ok (.ireturn, 1) := by decide +kernel
theorem dX2_storedAt_36 : decode cX2_storedAt 36 = .ok (.iload_n 1, 1) := by decide +kernel
theorem dX2_storedAt_37 : decode cX2_storedAt 37 = .ok (.ldc 81, 2) := by decide +kernel
theorem dX2_storedAt_39 : decode cX2_storedAt 39 = .ok (.if_icmp .lt 15, 3) := by decide +kernel
theorem dX2_storedAt_42 : decode cX2_storedAt 42 = .ok (.aload_n 0, 1) := by decide +kernel
theorem dX2_storedAt_43 : decode cX2_storedAt 43 = .ok (.getfield 21, 3) := by decide +kernel
theorem dX2_storedAt_46 : decode cX2_storedAt 46 = .ok (.iload_n 1, 1) := by decide +kernel
theorem dX2_storedAt_47 : decode cX2_storedAt 47 = .ok (.ldc 20, 2) := by decide +kernel
theorem dX2_storedAt_49 : decode cX2_storedAt 49 = .ok (.isub, 1) := by decide +kernel
theorem dX2_storedAt_50 : decode cX2_storedAt 50 = .ok (.invokevirtual 78, 3) := by decide +kernel
theorem dX2_storedAt_53 : decode cX2_storedAt 53 = .ok (.ireturn, 1) := by decide +kernel
theorem dX2_storedAt_54 : decode cX2_storedAt 54 = .ok (.iload_n 1, 1) := by decide +kernel
theorem dX2_storedAt_55 : decode cX2_storedAt 55 = .ok (.ldc 20, 2) := by decide +kernel
theorem dX2_storedAt_57 : decode cX2_storedAt 57 = .ok (.if_icmp .lt 24, 3) := by decide +kernel
theorem dX2_storedAt_60 : decode cX2_storedAt 60 = .ok (.iload_n 1, 1) := by decide +kernel
theorem dX2_storedAt_61 : decode cX2_storedAt 61 = .ok (.ldc 82, 2) := by decide +kernel
theorem dX2_storedAt_63 : decode cX2_storedAt 63 = .ok (.if_icmp .ge 18, 3) := by decide +kernel
theorem dX2_storedAt_66 : decode cX2_storedAt 66 = .ok (.aload_n 0, 1) := by decide +kernel
theorem dX2_storedAt_67 : decode cX2_storedAt 67 = .ok (.getfield 24, 3) := by decide +kernel
theorem dX2_storedAt_70 : decode cX2_storedAt 70 = .ok (.iload_n 1, 1) := by decide +kernel
theorem dX2_storedAt_71 : decode cX2_storedAt 71 = .ok (.sipush 255, 3) := by decide +kernel
theorem dX2_storedAt_74 : decode cX2_storedAt 74 = .ok (.iand, 1) := by decide +kernel
theorem dX2_storedAt_75 : decode cX2_storedAt 75 = .ok (.invokevirtual 78, 3) := by decide +kernel
theorem dX2_storedAt_78 : decode cX2_storedAt 78 = .ok (.goto 4, 3) := by decide +kernel
theorem dX2_storedAt_81 : decode cX2_storedAt 81 = .ok (.iconst 0, 1) := by decide +kernel
theorem dX2_storedAt_82 : decode cX2_storedAt 82 = .ok (.ireturn, 1) := by decide +kernel
theorem dX2_store_0 : decode cX2_store 0 = .ok (.iload_n 1, 1) := by decide +kernel
theorem dX2_store_1 : decode cX2_store 1 = .ok (.sipush 8192, 3) := by decide +kernel
theorem dX2_store_4 : decode cX2_store 4 = .ok (.if_icmp .lt 26, 3) := by decide +kernel
theorem dX2_store_7 : decode cX2_store 7 = .ok (.iload_n 1, 1) := by decide +kernel
theorem dX2_store_8 : decode cX2_store 8 = .ok (.sipush 16384, 3) := by decide +kernel
theorem dX2_store_11 : decode cX2_store 11 = .ok (.if_icmp .ge 19, 3) := by decide +kernel
theorem dX2_store_14 : decode cX2_store 14 = .ok (.aload_n 0, 1) := by decide +kernel
theorem dX2_store_15 : decode cX2_store 15 = .ok (.getfield 21, 3) := by decide +kernel
theorem dX2_store_18 : decode cX2_store 18 = .ok (.iload_n 1, 1) := by decide +kernel
theorem dX2_store_19 : decode cX2_store 19 = .ok (.sipush 8192, 3) := by decide +kernel
theorem dX2_store_22 : decode cX2_store 22 = .ok (.isub, 1) := by decide +kernel
theorem dX2_store_23 : decode cX2_store 23 = .ok (.iload_n 2, 1) := by decide +kernel
theorem dX2_store_24 : decode cX2_store 24 = .ok (.invokevirtual 83, 3) := by decide +kernel
theorem dX2_store_27 : decode cX2_store 27 = .ok (.goto 49, 3) := by decide +kernel
theorem dX2_store_30 : decode cX2_store 30 = .ok (.iload_n 1, 1) := by decide +kernel
theorem dX2_store_31 : decode cX2_store 31 = .ok (.ldc 81, 2) := by decide +kernel
theorem dX2_store_33 : decode cX2_store 33 = .ok (.if_icmp .lt 18, 3) := by decide +kernel
theorem dX2_store_36 : decode cX2_store 36 = .ok (.aload_n 0, 1) := by decide +kernel
theorem dX2_store_37 : decode cX2_store 37 = .ok (.getfield 21, 3) := by decide +kernel
theorem dX2_store_40 : decode cX2_store 40 = .ok (.iload_n 1, 1) := by decide +kernel
theorem dX2_store_41 : decode cX2_store 41 = .ok (.ldc 20, 2) := by decide +kernel
theorem dX2_store_43 : decode cX2_store 43 = .ok (.isub, 1) := by decide +kernel
theorem dX2_store_44 : decode cX2_store 44 = .ok (.iload_n 2, 1) := by decide +kernel
theorem dX2_store_45 : decode cX2_store 45 = .ok (.invokevirtual 83, 3) := by decide +kernel
theorem dX2_store_48 : decode cX2_store 48 = .ok (.goto 28, 3) := by decide +kernel
theorem dX2_store_51 : decode cX2_store 51 = .ok (.iload_n 1, 1) := by decide +kernel
theorem dX2_store_52 : decode cX2_store 52 = .ok (.ldc 20, 2) := by decide +kernel
theorem dX2_store_54 : decode cX2_store 54 = .ok (.if_icmp .lt 22, 3) := by decide +kernel
theorem dX2_store_57 : decode cX2_store 57 = .ok (.iload_n 1, 1) := by decide +kernel
theorem dX2_store_58 : decode cX2_store 58 = .ok (.ldc 82, 2) := by decide +kernel
theorem dX2_store_60 : decode cX2_store 60 = .ok (.if_icmp .ge 16, 3) := by decide +kernel
theorem dX2_store_63 : decode cX2_store 63 = .ok (.aload_n 0, 1) := by decide +kernel
theorem dX2_store_64 : decode cX2_store 64 = .ok (.getfield 24, 3) := by decide +kernel
theorem dX2_store_67 : decode cX2_store 67 = .ok (.iload_n 1, 1) := by decide +kernel
theorem dX2_store_68 : decode cX2_store 68 = .ok (.sipush 255, 3) := by decide +kernel
theorem dX2_store_71 : decode cX2_store 71 = .ok (.iand, 1) := by decide +kernel
theorem dX2_store_72 : decode cX2_store 72 = .ok (.iload_n 2, 1) := by decide +kernel
theorem dX2_store_73 : decode cX2_store 73 = .ok (.invokevirtual 83, 3) := by decide +kernel
theorem dX2_store_76 : decode cX2_store 76 = .ok (.return_, 1) := by decide +kernel
theorem dX3_init_0 : decode cX3_init 0 = .ok (.aload_n 0, 1) := by decide +kernel
theorem dX3_init_1 : decode cX3_init 1 = .ok (.invokespecial 3, 3) := by decide +kernel
theorem dX3_init_4 : decode cX3_init 4 = .ok (.aload_n 0, 1) := by decide +kernel
theorem dX3_init_5 : decode cX3_init 5 = .ok (.new 9, 3) := by decide +kernel
theorem dX3_init_8 : decode cX3_init 8 = .ok (.dup, 1) := by decide +kernel
theorem dX3_init_9 : decode cX3_init 9 = .ok (.sipush 16384, 3) := by decide +kernel
theorem dX3_init_12 : decode cX3_init 12 = .ok (.invokespecial 11, 3) := by decide +kernel
theorem dX3_init_15 : decode cX3_init 15 = .ok (.putfield 14, 3) := by decide +kernel
theorem dX3_init_18 : decode cX3_init 18 = .ok (.aload_n 0, 1) := by decide +kernel
theorem dX3_init_19 : decode cX3_init 19 = .ok (.bipush 8, 2) := by decide +kernel
theorem dX3_init_21 : decode cX3_init 21 = .ok (.newarray .int, 2) := by decide +kernel
theorem dX3_init_23 : decode cX3_init 23 = .ok (.putfield 20, 3) := by decide +kernel
theorem dX3_init_26 : decode cX3_init 26 = .ok (.aload_n 0, 1) := by decide +kernel
theorem dX3_init_27 : decode cX3_init 27 = .ok (.iconst (-1), 1) := by decide +kernel
theorem dX3_init_28 : decode cX3_init 28 = .ok (.putfield 24, 3) := by decide +kernel
theorem dX3_init_31 : decode cX3_init 31 = .ok (.return_, 1) := by decide +kernel
theorem dX3_readData_0 : decode cX3_readData 0 = .ok (.aload_n 0, 1) := by decide +kernel
theorem dX3_readData_1 : decode cX3_readData 1 = .ok (.getfield 28, 3) := by decide +kernel
theorem dX3_readData_4 : decode cX3_readData 4 = .ok (.istore_n 1, 1) := by decide +kernel
theorem dX3_readData_5 : decode cX3_readData 5 = .ok (.aload_n 0, 1) := by decide +kernel
theorem dX3_readData_6 : decode cX3_readData 6 = .ok (.aload_n 0, 1) := by decide +kernel
theorem dX3_readData_7 : decode cX3_readData 7 = .ok (.getfield 14, 3) := by decide +kernel
theorem dX3_readData_10 : decode cX3_readData 10 = .ok (.aload_n 0, 1) := by decide +kernel
theorem dX3_readData_11 : decode cX3_readData 11 = .ok (.getfield 31, 3) := by decide +kernel
theorem dX3_readData_14 : decode cX3_readData 14 = .ok (.invokevirtual 34, 3) := by decide +kernel
theorem dX3_readData_17 : decode cX3_readData 17 = .ok (.putfield 28, 3) := by decide +kernel
theorem dX3_readData_20 : decode cX3_readData 20 = .ok (.aload_n 0, 1) := by decide +kernel
theorem dX3_readData_21 : decode cX3_readData 21 = .ok (.aload_n 0, 1) := by decide +kernel
theorem dX3_readData_22 : decode cX3_readData 22 = .ok (.getfield 31, 3) := by decide +kernel
theorem dX3_readData_25 : decode cX3_readData 25 = .ok (.iconst 1, 1) := by decide +kernel
theorem dX3_readData_26 : decode cX3_readData 26 = .ok (.iadd, 1) := by decide +kernel
theorem dX3_readData_27 : decode cX3_readData 27 = .ok (.sipush 16383, 3) := by decide +kernel
theorem dX3_readData_30 : decode cX3_readData 30 = .ok (.iand, 1) := by decide +kernel
theorem dX3_readData_31 : decode cX3_readData 31 = .ok (.putfield 31, 3) := by decide +kernel
theorem dX3_readData_34 : decode cX3_readData 34 = .ok (.aload_n 0, 1) := by decide +kernel
theorem dX3_readData_35 : decode cX3_readData 35 = .ok (.iconst (-1), 1) := by decide +kernel
theorem dX3_readData_36 : decode cX3_readData 36 = .ok (.putfield 24, 3) := by decide +kernel
theorem dX3_readData_39 : decode cX3_readData 39 = .ok (.iload_n 1, 1) := by decide +kernel
theorem dX3_readData_40 : decode cX3_readData 40 = .ok (.ireturn, 1) := by decide +kernel
theorem dX3_readStatus_0 : decode cX3_readStatus 0 = .ok (.aload_n 0, 1) := by decide +kernel
theorem dX3_readStatus_1 : decode cX3_readStatus 1 = .ok (.getfield 38, 3) := by decide +kernel
theorem dX3_readStatus_4 : decode cX3_readStatus 4 = .ok (.ifCond .eq 9, 3) := by decide +kernel
theorem dX3_readStatus_7 : decode cX3_readStatus 7 = .ok (.sipush 128, 3) := by decide +kernel
theorem dX3_readStatus_10 : decode cX3_readStatus 10 = .ok (.goto 4, 3) := by decide +kernel
theorem dX3_readStatus_13 : decode cX3_readStatus 13 = .ok (.iconst 0, 1) := by decide +kernel
theorem dX3_readStatus_14 : decode cX3_readStatus 14 = .ok (.istore_n 1, 1) := by decide +kernel
