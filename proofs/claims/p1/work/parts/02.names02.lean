theorem dX0_put_0 : decode cX0_put 0 = .ok (.iload_n 1, 1) := by decide +kernel
theorem dX0_put_1 : decode cX0_put 1 = .ok (.iconst 3, 1) := by decide +kernel
theorem dX0_put_2 : decode cX0_put 2 = .ok (.ishr, 1) := by decide +kernel
theorem dX0_put_3 : decode cX0_put 3 = .ok (.istore_n 3, 1) := by decide +kernel
theorem dX0_put_4 : decode cX0_put 4 = .ok (.iload_n 3, 1) := by decide +kernel
theorem dX0_put_5 : decode cX0_put 5 = .ok (.ifCond .lt 12, 3) := by decide +kernel
theorem dX0_put_8 : decode cX0_put 8 = .ok (.iload_n 3, 1) := by decide +kernel
theorem dX0_put_9 : decode cX0_put 9 = .ok (.aload_n 0, 1) := by decide +kernel
theorem dX0_put_10 : decode cX0_put 10 = .ok (.getfield 7, 3) := by decide +kernel
theorem dX0_put_13 : decode cX0_put 13 = .ok (.arraylength, 1) := by decide +kernel
theorem dX0_put_14 : decode cX0_put 14 = .ok (.if_icmp .lt 4, 3) := by decide +kernel
theorem dX0_put_17 : decode cX0_put 17 = .ok (.return_, 1) := by decide +kernel
theorem dX0_put_18 : decode cX0_put 18 = .ok (.iload_n 1, 1) := by decide +kernel
theorem dX0_put_19 : decode cX0_put 19 = .ok (.bipush 7, 2) := by decide +kernel
theorem dX0_put_21 : decode cX0_put 21 = .ok (.iand, 1) := by decide +kernel
theorem dX0_put_22 : decode cX0_put 22 = .ok (.iconst 3, 1) := by decide +kernel
theorem dX0_put_23 : decode cX0_put 23 = .ok (.ishl, 1) := by decide +kernel
theorem dX0_put_24 : decode cX0_put 24 = .ok (.istore 4, 2) := by decide +kernel
theorem dX0_put_26 : decode cX0_put 26 = .ok (.aload_n 0, 1) := by decide +kernel
theorem dX0_put_27 : decode cX0_put 27 = .ok (.getfield 7, 3) := by decide +kernel
theorem dX0_put_30 : decode cX0_put 30 = .ok (.iload_n 3, 1) := by decide +kernel
theorem dX0_put_31 : decode cX0_put 31 = .ok (.laload, 1) := by decide +kernel
theorem dX0_put_32 : decode cX0_put 32 = .ok (.ldc2_w 13, 3) := by decide +kernel
theorem dX0_put_35 : decode cX0_put 35 = .ok (.iload 4, 2) := by decide +kernel
theorem dX0_put_37 : decode cX0_put 37 = .ok (.lshl, 1) := by decide +kernel
theorem dX0_put_38 : decode cX0_put 38 = .ok (.ldc2_w 15, 3) := by decide +kernel
theorem dX0_put_41 : decode cX0_put 41 = .ok (.lxor, 1) := by decide +kernel
theorem dX0_put_42 : decode cX0_put 42 = .ok (.land, 1) := by decide +kernel
theorem dX0_put_43 : decode cX0_put 43 = .ok (.lstore 5, 2) := by decide +kernel
theorem dX0_put_45 : decode cX0_put 45 = .ok (.aload_n 0, 1) := by decide +kernel
theorem dX0_put_46 : decode cX0_put 46 = .ok (.getfield 7, 3) := by decide +kernel
theorem dX0_put_49 : decode cX0_put 49 = .ok (.iload_n 3, 1) := by decide +kernel
theorem dX0_put_50 : decode cX0_put 50 = .ok (.lload 5, 2) := by decide +kernel
theorem dX0_put_52 : decode cX0_put 52 = .ok (.iload_n 2, 1) := by decide +kernel
theorem dX0_put_53 : decode cX0_put 53 = .ok (.sipush 255, 3) := by decide +kernel
theorem dX0_put_56 : decode cX0_put 56 = .ok (.iand, 1) := by decide +kernel
theorem dX0_put_57 : decode cX0_put 57 = .ok (.i2l, 1) := by decide +kernel
theorem dX0_put_58 : decode cX0_put 58 = .ok (.iload 4, 2) := by decide +kernel
theorem dX0_put_60 : decode cX0_put 60 = .ok (.lshl, 1) := by decide +kernel
theorem dX0_put_61 : decode cX0_put 61 = .ok (.lor, 1) := by decide +kernel
theorem dX0_put_62 : decode cX0_put 62 = .ok (.lastore, 1) := by decide +kernel
theorem dX0_put_63 : decode cX0_put 63 = .ok (.return_, 1) := by decide +kernel
set_option maxRecDepth 20000 in
theorem ggX1_init_X0_init : GoodIn wsX1_init wsX0_init := goodIn_r _ [10, 11, 2, 3, 12, 13, 14] (by decide +kernel) (by decide +kernel)
set_option maxRecDepth 20000 in
theorem gX1_init_X0_init : GoodIn wsX1_init (wsX0_init) := ggX1_init_X0_init
theorem dX1_init_0 : decode cX1_init 0 = .ok (.aload_n 0, 1) := by decide +kernel
theorem dX1_init_1 : decode cX1_init 1 = .ok (.invokespecial 3, 3) := by decide +kernel
theorem dX1_init_4 : decode cX1_init 4 = .ok (.aload_n 0, 1) := by decide +kernel
theorem dX1_init_5 : decode cX1_init 5 = .ok (.new 9, 3) := by decide +kernel
theorem dX1_init_8 : decode cX1_init 8 = .ok (.dup, 1) := by decide +kernel
theorem dX1_init_9 : decode cX1_init 9 = .ok (.sipush 8192, 3) := by decide +kernel
theorem dX1_init_12 : decode cX1_init 12 = .ok (.invokespecial 11, 3) := by decide +kernel
theorem dX1_init_15 : decode cX1_init 15 = .ok (.putfield 14, 3) := by decide +kernel
theorem dX1_init_18 : decode cX1_init 18 = .ok (.return_, 1) := by decide +kernel
set_option maxRecDepth 20000 in
theorem ggX2_init_X0_init : GoodIn wsX2_init wsX0_init := goodIn_r _ [15, 16, 2, 3, 17, 18, 19] (by decide +kernel) (by decide +kernel)
set_option maxRecDepth 20000 in
theorem gX2_init_X0_init : GoodIn wsX2_init (wsX0_init) := ggX2_init_X0_init
theorem dX2_init_0 : decode cX2_init 0 = .ok (.aload_n 0, 1) := by decide +kernel
theorem dX2_init_1 : decode cX2_init 1 = .ok (.invokespecial 3, 3) := by decide +kernel
theorem dX2_init_4 : decode cX2_init 4 = .ok (.aload_n 0, 1) := by decide +kernel
theorem dX2_init_5 : decode cX2_init 5 = .ok (.new 9, 3) := by decide +kernel
theorem dX2_init_8 : decode cX2_init 8 = .ok (.dup, 1) := by decide +kernel
theorem dX2_init_9 : decode cX2_init 9 = .ok (.sipush 8192, 3) := by decide +kernel
theorem dX2_init_12 : decode cX2_init 12 = .ok (.invokespecial 11, 3) := by decide +kernel
theorem dX2_init_15 : decode cX2_init 15 = .ok (.putfield 14, 3) := by decide +kernel
theorem dX2_init_18 : decode cX2_init 18 = .ok (.aload_n 0, 1) := by decide +kernel
theorem dX2_init_19 : decode cX2_init 19 = .ok (.new 9, 3) := by decide +kernel
theorem dX2_init_22 : decode cX2_init 22 = .ok (.dup, 1) := by decide +kernel
theorem dX2_init_23 : decode cX2_init 23 = .ok (.ldc 20, 2) := by decide +kernel
theorem dX2_init_25 : decode cX2_init 25 = .ok (.invokespecial 11, 3) := by decide +kernel
theorem dX2_init_28 : decode cX2_init 28 = .ok (.putfield 21, 3) := by decide +kernel
theorem dX2_init_31 : decode cX2_init 31 = .ok (.aload_n 0, 1) := by decide +kernel
theorem dX2_init_32 : decode cX2_init 32 = .ok (.new 9, 3) := by decide +kernel
theorem dX2_init_35 : decode cX2_init 35 = .ok (.dup, 1) := by decide +kernel
theorem dX2_init_36 : decode cX2_init 36 = .ok (.sipush 256, 3) := by decide +kernel
theorem dX2_init_39 : decode cX2_init 39 = .ok (.invokespecial 11, 3) := by decide +kernel
theorem dX2_init_42 : decode cX2_init 42 = .ok (.putfield 24, 3) := by decide +kernel
theorem dX2_init_45 : decode cX2_init 45 = .ok (.aload_n 0, 1) := by decide +kernel
theorem dX2_init_46 : decode cX2_init 46 = .ok (.aload_n 1, 1) := by decide +kernel
theorem dX2_init_47 : decode cX2_init 47 = .ok (.putfield 27, 3) := by decide +kernel
theorem dX2_init_50 : decode cX2_init 50 = .ok (.aload_n 0, 1) := by decide +kernel
theorem dX2_init_51 : decode cX2_init 51 = .ok (.aload_n 2, 1) := by decide +kernel
theorem dX2_init_52 : decode cX2_init 52 = .ok (.putfield 31, 3) := by decide +kernel
theorem dX2_init_55 : decode cX2_init 55 = .ok (.return_, 1) := by decide +kernel
set_option maxRecDepth 20000 in
theorem ggX2_wordAt_X2_byteAt : GoodIn wsX2_wordAt wsX2_byteAt := goodIn_r _ [6, 7, 8, 9, 10, 11, 12, 13, 14, 15, 16, 17, 18, 19, 20, 21, 22, 23, 24, 25, 26, 27, 28, 29, 30, 31, 32, 33, 34, 35, 36, 37, 38, 39, 40, 41, 42, 43, 44, 45, 46, 47, 48, 5, 49, 50, 51, 52, 53, 54, 55, 56, 57, 58, 59, 60, 61, 62, 63, 64, 65, 66, 67, 68, 69, 70, 71, 72] (by decide +kernel) (by decide +kernel)
set_option maxRecDepth 20000 in
theorem gX2_wordAt_X2_byteAt : GoodIn wsX2_wordAt (wsV RX2 38 RX2 yX2_byteAt wsX2_byteAt) := goodIn_app (goodIn_of _ (by decide +kernel)) ggX2_wordAt_X2_byteAt
theorem dX2_wordAt_0 : decode cX2_wordAt 0 = .ok (.aload_n 0, 1) := by decide +kernel
theorem dX2_wordAt_1 : decode cX2_wordAt 1 = .ok (.iload_n 1, 1) := by decide +kernel
theorem dX2_wordAt_2 : decode cX2_wordAt 2 = .ok (.ldc 37, 2) := by decide +kernel
theorem dX2_wordAt_4 : decode cX2_wordAt 4 = .ok (.iand, 1) := by decide +kernel
theorem dX2_wordAt_5 : decode cX2_wordAt 5 = .ok (.invokevirtual 38, 3) := by decide +kernel
theorem dX2_wordAt_8 : decode cX2_wordAt 8 = .ok (.istore_n 2, 1) := by decide +kernel
theorem dX2_wordAt_9 : decode cX2_wordAt 9 = .ok (.iload_n 2, 1) := by decide +kernel
theorem dX2_wordAt_10 : decode cX2_wordAt 10 = .ok (.bipush 8, 2) := by decide +kernel
theorem dX2_wordAt_12 : decode cX2_wordAt 12 = .ok (.ishl, 1) := by decide +kernel
theorem dX2_wordAt_13 : decode cX2_wordAt 13 = .ok (.aload_n 0, 1) := by decide +kernel
theorem dX2_wordAt_14 : decode cX2_wordAt 14 = .ok (.iload_n 1, 1) := by decide +kernel
theorem dX2_wordAt_15 : decode cX2_wordAt 15 = .ok (.iconst 1, 1) := by decide +kernel
theorem dX2_wordAt_16 : decode cX2_wordAt 16 = .ok (.ior, 1) := by decide +kernel
theorem dX2_wordAt_17 : decode cX2_wordAt 17 = .ok (.invokevirtual 38, 3) := by decide +kernel
theorem dX2_wordAt_20 : decode cX2_wordAt 20 = .ok (.ior, 1) := by decide +kernel
theorem dX2_wordAt_21 : decode cX2_wordAt 21 = .ok (.ireturn, 1) := by decide +kernel
set_option maxRecDepth 20000 in
theorem ggX2_byteAt_X3_readStatus : GoodIn wsX2_byteAt wsX3_readStatus := goodIn_r _ [9, 10, 11, 57, 58, 59, 60, 61, 62] (by decide +kernel) (by decide +kernel)
set_option maxRecDepth 20000 in
theorem gX2_byteAt_X3_readStatus : GoodIn wsX2_byteAt (wsV RX2 48 RX3 yX3_readStatus wsX3_readStatus) := goodIn_app (goodIn_of _ (by decide +kernel)) ggX2_byteAt_X3_readStatus
set_option maxRecDepth 20000 in
theorem ggX2_byteAt_X3_readData : GoodIn wsX2_byteAt wsX3_readData := goodIn_r _ [15, 16, 17, 18, 11, 19, 20, 21, 22, 23, 24, 57, 58, 59, 60, 61, 62, 63] (by decide +kernel) (by decide +kernel)
set_option maxRecDepth 20000 in
theorem gX2_byteAt_X3_readData : GoodIn wsX2_byteAt (wsV RX2 54 RX3 yX3_readData wsX3_readData) := goodIn_app (goodIn_of _ (by decide +kernel)) ggX2_byteAt_X3_readData
set_option maxRecDepth 20000 in
theorem ggX2_byteAt_X1_readAddress : GoodIn wsX2_byteAt wsX1_readAddress := goodIn_r _ [29, 30, 31, 64, 65, 66, 67] (by decide +kernel) (by decide +kernel)
set_option maxRecDepth 20000 in
theorem gX2_byteAt_X1_readAddress : GoodIn wsX2_byteAt (wsV RX2 57 RX1 yX1_readAddress wsX1_readAddress) := goodIn_app (goodIn_of _ (by decide +kernel)) ggX2_byteAt_X1_readAddress
set_option maxRecDepth 20000 in
theorem ggX2_byteAt_X1_readData : GoodIn wsX2_byteAt wsX1_readData := goodIn_r _ [35, 36, 30, 37, 38, 31, 39, 20, 21, 22, 23, 24, 64, 65, 66, 67, 63] (by decide +kernel) (by decide +kernel)
set_option maxRecDepth 20000 in
theorem gX2_byteAt_X1_readData : GoodIn wsX2_byteAt (wsV RX2 62 RX1 yX1_readData wsX1_readData) := goodIn_app (goodIn_of _ (by decide +kernel)) ggX2_byteAt_X1_readData
set_option maxRecDepth 20000 in
theorem ggX2_byteAt_X2_storedAt : GoodIn wsX2_byteAt wsX2_storedAt := goodIn_r _ [44, 45, 46, 47, 48, 49, 50, 51, 20, 21, 22, 23, 24, 52, 53, 54, 55, 56, 63] (by decide +kernel) (by decide +kernel)
set_option maxRecDepth 20000 in
theorem gX2_byteAt_X2_storedAt : GoodIn wsX2_byteAt (wsV RX2 63 RX2 yX2_storedAt wsX2_storedAt) := goodIn_app (goodIn_of _ (by decide +kernel)) ggX2_byteAt_X2_storedAt
theorem dX2_byteAt_0 : decode cX2_byteAt 0 = .ok (.iload_n 1, 1) := by decide +kernel
theorem dX2_byteAt_1 : decode cX2_byteAt 1 = .ok (.ldc 46, 2) := by decide +kernel
theorem dX2_byteAt_3 : decode cX2_byteAt 3 = .ok (.iand, 1) := by decide +kernel
theorem dX2_byteAt_4 : decode cX2_byteAt 4 = .ok (.istore_n 2, 1) := by decide +kernel
theorem dX2_byteAt_5 : decode cX2_byteAt 5 = .ok (.iload_n 2, 1) := by decide +kernel
theorem dX2_byteAt_6 : decode cX2_byteAt 6 = .ok (.iconst 2, 1) := by decide +kernel
theorem dX2_byteAt_7 : decode cX2_byteAt 7 = .ok (.iand, 1) := by decide +kernel
theorem dX2_byteAt_8 : decode cX2_byteAt 8 = .ok (.ifCond .eq 7, 3) := by decide +kernel
theorem dX2_byteAt_11 : decode cX2_byteAt 11 = .ok (.iconst 1, 1) := by decide +kernel
theorem dX2_byteAt_12 : decode cX2_byteAt 12 = .ok (.goto 4, 3) := by decide +kernel
theorem dX2_byteAt_15 : decode cX2_byteAt 15 = .ok (.iconst 0, 1) := by decide +kernel
theorem dX2_byteAt_16 : decode cX2_byteAt 16 = .ok (.istore_n 3, 1) := by decide +kernel
theorem dX2_byteAt_17 : decode cX2_byteAt 17 = .ok (.iload_n 2, 1) := by decide +kernel
theorem dX2_byteAt_18 : decode cX2_byteAt 18 = .ok (.ldc 47, 2) := by decide +kernel
theorem dX2_byteAt_20 : decode cX2_byteAt 20 = .ok (.iand, 1) := by decide +kernel
theorem dX2_byteAt_21 : decode cX2_byteAt 21 = .ok (.lookupswitch 71 #[(34816, 27), (38912, 49)], 27) := by decide +kernel
theorem dX2_byteAt_48 : decode cX2_byteAt 48 = .ok (.iload_n 3, 1) := by decide +kernel
theorem dX2_byteAt_49 : decode cX2_byteAt 49 = .ok (.ifCond .eq 13, 3) := by decide +kernel
theorem dX2_byteAt_52 : decode cX2_byteAt 52 = .ok (.aload_n 0, 1) := by decide +kernel
theorem dX2_byteAt_53 : decode cX2_byteAt 53 = .ok (.getfield 27, 3) := by decide +kernel
theorem dX2_byteAt_56 : decode cX2_byteAt 56 = .ok (.invokevirtual 48, 3) := by decide +kernel
theorem dX2_byteAt_59 : decode cX2_byteAt 59 = .ok (.goto 10, 3) := by decide +kernel
theorem dX2_byteAt_62 : decode cX2_byteAt 62 = .ok (.aload_n 0, 1) := by decide +kernel
theorem dX2_byteAt_63 : decode cX2_byteAt 63 = .ok (.getfield 27, 3) := by decide +kernel
theorem dX2_byteAt_66 : decode cX2_byteAt 66 = .ok (.invokevirtual 54, 3) := by decide +kernel
theorem dX2_byteAt_69 : decode cX2_byteAt 69 = .ok (.ireturn, 1) := by decide +kernel
theorem dX2_byteAt_70 : decode cX2_byteAt 70 = .ok (.iload_n 3, 1) := by decide +kernel
theorem dX2_byteAt_71 : decode cX2_byteAt 71 = .ok (.ifCond .eq 13, 3) := by decide +kernel
theorem dX2_byteAt_74 : decode cX2_byteAt 74 = .ok (.aload_n 0, 1) := by decide +kernel
theorem dX2_byteAt_75 : decode cX2_byteAt 75 = .ok (.getfield 31, 3) := by decide +kernel
theorem dX2_byteAt_78 : decode cX2_byteAt 78 = .ok (.invokevirtual 57, 3) := by decide +kernel
theorem dX2_byteAt_81 : decode cX2_byteAt 81 = .ok (.goto 10, 3) := by decide +kernel
theorem dX2_byteAt_84 : decode cX2_byteAt 84 = .ok (.aload_n 0, 1) := by decide +kernel
theorem dX2_byteAt_85 : decode cX2_byteAt 85 = .ok (.getfield 31, 3) := by decide +kernel
theorem dX2_byteAt_88 : decode cX2_byteAt 88 = .ok (.invokevirtual 62, 3) := by decide +kernel
theorem dX2_byteAt_91 : decode cX2_byteAt 91 = .ok (.ireturn, 1) := by decide +kernel
theorem dX2_byteAt_92 : decode cX2_byteAt 92 = .ok (.aload_n 0, 1) := by decide +kernel
theorem dX2_byteAt_93 : decode cX2_byteAt 93 = .ok (.iload_n 2, 1) := by decide +kernel
theorem dX2_byteAt_94 : decode cX2_byteAt 94 = .ok (.invokevirtual 63, 3) := by decide +kernel
theorem dX2_byteAt_97 : decode cX2_byteAt 97 = .ok (.ireturn, 1) := by decide +kernel
set_option maxRecDepth 20000 in
theorem ggX2_storedAt_X0_get : GoodIn wsX2_storedAt wsX0_get := goodIn_r _ [11, 12, 18] (by decide +kernel) (by decide +kernel)
set_option maxRecDepth 20000 in
theorem gX2_storedAt_X0_get : GoodIn wsX2_storedAt (wsV RX2 78 RX0 yX0_get wsX0_get) := goodIn_app (goodIn_of _ (by decide +kernel)) ggX2_storedAt_X0_get
theorem dX2_storedAt_0 : decode cX2_storedAt 0 = .ok (.iload_n 1, 1) := by decide +kernel
theorem dX2_storedAt_1 : decode cX2_storedAt 1 = .ok (.sipush 8192, 3) := by decide +kernel
theorem dX2_storedAt_4 : decode cX2_storedAt 4 = .ok (.if_icmp .ge 12, 3) := by decide +kernel
theorem dX2_storedAt_7 : decode cX2_storedAt 7 = .ok (.aload_n 0, 1) := by decide +kernel
theorem dX2_storedAt_8 : decode cX2_storedAt 8 = .ok (.getfield 14, 3) := by decide +kernel
theorem dX2_storedAt_11 : decode cX2_storedAt 11 = .ok (.iload_n 1, 1) := by decide +kernel
theorem dX2_storedAt_12 : decode cX2_storedAt 12 = .ok (.invokevirtual 78, 3) := by decide +kernel
theorem dX2_storedAt_15 : decode cX2_storedAt 15 = .ok (.ireturn, 1) := by decide +kernel
theorem dX2_storedAt_16 : decode cX2_storedAt 16 = .ok (.iload_n 1, 1) := by decide +kernel
theorem dX2_storedAt_17 : decode cX2_storedAt 17 = .ok (.sipush 16384, 3) := by decide +kernel
theorem dX2_storedAt_20 : decode cX2_storedAt 20 = .ok (.if_icmp .ge 16, 3) := by decide +kernel
theorem dX2_storedAt_23 : decode cX2_storedAt 23 = .ok (.aload_n 0, 1) := by decide +kernel
theorem dX2_storedAt_24 : decode cX2_storedAt 24 = .ok (.getfield 21, 3) := by decide +kernel
theorem dX2_storedAt_27 : decode cX2_storedAt 27 = .ok (.iload_n 1, 1) := by decide +kernel
theorem dX2_storedAt_28 : decode cX2_storedAt 28 = .ok (.sipush 8192, 3) := by decide +kernel
theorem dX2_storedAt_31 : decode cX2_storedAt 31 = .ok (.isub, 1) := by decide +kernel
theorem dX2_storedAt_32 : decode cX2_storedAt 32 = .ok (.invokevirtual 78, 3) := by decide +kernel
theorem dX2_storedAt_35 : decode cX2_storedAt 35 = .ok (.ireturn, 1) := by decide +kernel
theorem dX2_storedAt_36 : decode cX2_storedAt 36 = .ok (.iload_n 1, 1) := by decide +kernel
theorem dX2_storedAt_37 : decode cX2_storedAt 37 = .ok (.ldc 81, 2) := by decide +kernel
theorem dX2_storedAt_39 : decode cX2_storedAt 39 = .ok (.if_icmp .lt 15, 3) := by decide +kernel
theorem dX2_storedAt_42 : decode cX2_storedAt 42 = .ok (.aload_n 0, 1) := by decide +kernel
theorem dX2_storedAt_43 : decode cX2_storedAt 43 = .ok (.getfield 21, 3) := by decide +kernel
theorem dX2_storedAt_46 : decode cX2_storedAt 46 = .ok (.iload_n 1, 1) := by decide +kernel
theorem dX2_storedAt_47 : decode cX2_storedAt 47 = .ok (.ldc 20, 2) := by decide +kernel
theorem dX2_storedAt_49 : decode cX2_storedAt 49 = .ok (.isub, 1) := by decide +kernel
theorem dX2_storedAt_50 : decode cX2_storedAt 50 = .ok (.invokevirtual 78, 3) := by decide +kernel
theorem dX2_storedAt_53 : decode cX2_storedAt 53 = .ok (.ireturn, 1) := by decide +kernel
theorem dX2_storedAt_54 : decode cX2_storedAt 54 = .ok (.iload_n 1, 1) := by decide +kernel
theorem dX2_storedAt_55 : decode cX2_storedAt 55 = .ok (.ldc 20, 2) := by decide +kernel
theorem dX2_storedAt_57 : decode cX2_storedAt 57 = .ok (.if_icmp .lt 24, 3) := by decide +kernel
theorem dX2_storedAt_60 : decode cX2_storedAt 60 = .ok (.iload_n 1, 1) := by decide +kernel
theorem dX2_storedAt_61 : decode cX2_storedAt 61 = .ok (.ldc 82, 2) := by decide +kernel
theorem dX2_storedAt_63 : decode cX2_storedAt 63 = .ok (.if_icmp .ge 18, 3) := by decide +kernel
theorem dX2_storedAt_66 : decode cX2_storedAt 66 = .ok (.aload_n 0, 1) := by decide +kernel
theorem dX2_storedAt_67 : decode cX2_storedAt 67 = .ok (.getfield 24, 3) := by decide +kernel
theorem dX2_storedAt_70 : decode cX2_storedAt 70 = .ok (.iload_n 1, 1) := by decide +kernel
theorem dX2_storedAt_71 : decode cX2_storedAt 71 = .ok (.sipush 255, 3) := by decide +kernel
theorem dX2_storedAt_74 : decode cX2_storedAt 74 = .ok (.iand, 1) := by decide +kernel
theorem dX2_storedAt_75 : decode cX2_storedAt 75 = .ok (.invokevirtual 78, 3) := by decide +kernel
theorem dX2_storedAt_78 : decode cX2_storedAt 78 = .ok (.goto 4, 3) := by decide +kernel
theorem dX2_storedAt_81 : decode cX2_storedAt 81 = .ok (.iconst 0, 1) := by decide +kernel
theorem dX2_storedAt_82 : decode cX2_storedAt 82 = .ok (.ireturn, 1) := by decide +kernel
set_option maxRecDepth 20000 in
theorem ggX3_init_X0_init : GoodIn wsX3_init wsX0_init := goodIn_r _ [13, 14, 2, 3, 15, 16, 17] (by decide +kernel) (by decide +kernel)
set_option maxRecDepth 20000 in
theorem gX3_init_X0_init : GoodIn wsX3_init (wsX0_init) := ggX3_init_X0_init
theorem dX3_init_0 : decode cX3_init 0 = .ok (.aload_n 0, 1) := by decide +kernel
theorem dX3_init_1 : decode cX3_init 1 = .ok (.invokespecial 3, 3) := by decide +kernel
theorem dX3_init_4 : decode cX3_init 4 = .ok (.aload_n 0, 1) := by decide +kernel
theorem dX3_init_5 : decode cX3_init 5 = .ok (.new 9, 3) := by decide +kernel
theorem dX3_init_8 : decode cX3_init 8 = .ok (.dup, 1) := by decide +kernel
theorem dX3_init_9 : decode cX3_init 9 = .ok (.sipush 16384, 3) := by decide +kernel
theorem dX3_init_12 : decode cX3_init 12 = .ok (.invokespecial 11, 3) := by decide +kernel
theorem dX3_init_15 : decode cX3_init 15 = .ok (.putfield 14, 3) := by decide +kernel
theorem dX3_init_18 : decode cX3_init 18 = .ok (.aload_n 0, 1) := by decide +kernel
theorem dX3_init_19 : decode cX3_init 19 = .ok (.bipush 8, 2) := by decide +kernel
theorem dX3_init_21 : decode cX3_init 21 = .ok (.newarray .int, 2) := by decide +kernel
theorem dX3_init_23 : decode cX3_init 23 = .ok (.putfield 20, 3) := by decide +kernel
theorem dX3_init_26 : decode cX3_init 26 = .ok (.aload_n 0, 1) := by decide +kernel
theorem dX3_init_27 : decode cX3_init 27 = .ok (.iconst (-1), 1) := by decide +kernel
theorem dX3_init_28 : decode cX3_init 28 = .ok (.putfield 24, 3) := by decide +kernel
theorem dX3_init_31 : decode cX3_init 31 = .ok (.return_, 1) := by decide +kernel
set_option maxRecDepth 20000 in
theorem ggX3_colourAt_X0_get : GoodIn wsX3_colourAt wsX0_get := goodIn_r _ [7, 8, 15] (by decide +kernel) (by decide +kernel)
set_option maxRecDepth 20000 in
theorem gX3_colourAt_X0_get : GoodIn wsX3_colourAt (wsV RX3 34 RX0 yX0_get wsX0_get) := goodIn_app (goodIn_of _ (by decide +kernel)) ggX3_colourAt_X0_get
theorem dX3_colourAt_0 : decode cX3_colourAt 0 = .ok (.aload_n 0, 1) := by decide +kernel
theorem dX3_colourAt_1 : decode cX3_colourAt 1 = .ok (.getfield 20, 3) := by decide +kernel
theorem dX3_colourAt_4 : decode cX3_colourAt 4 = .ok (.bipush 7, 2) := by decide +kernel
theorem dX3_colourAt_6 : decode cX3_colourAt 6 = .ok (.iaload, 1) := by decide +kernel
theorem dX3_colourAt_7 : decode cX3_colourAt 7 = .ok (.bipush 15, 2) := by decide +kernel
theorem dX3_colourAt_9 : decode cX3_colourAt 9 = .ok (.iand, 1) := by decide +kernel
theorem dX3_colourAt_10 : decode cX3_colourAt 10 = .ok (.istore_n 3, 1) := by decide +kernel
theorem dX3_colourAt_11 : decode cX3_colourAt 11 = .ok (.aload_n 0, 1) := by decide +kernel
theorem dX3_colourAt_12 : decode cX3_colourAt 12 = .ok (.getfield 20, 3) := by decide +kernel
theorem dX3_colourAt_15 : decode cX3_colourAt 15 = .ok (.iconst 1, 1) := by decide +kernel
theorem dX3_colourAt_16 : decode cX3_colourAt 16 = .ok (.iaload, 1) := by decide +kernel
theorem dX3_colourAt_17 : decode cX3_colourAt 17 = .ok (.bipush 64, 2) := by decide +kernel
theorem dX3_colourAt_19 : decode cX3_colourAt 19 = .ok (.iand, 1) := by decide +kernel
theorem dX3_colourAt_20 : decode cX3_colourAt 20 = .ok (.ifCond .ne 5, 3) := by decide +kernel
theorem dX3_colourAt_23 : decode cX3_colourAt 23 = .ok (.iload_n 3, 1) := by decide +kernel
theorem dX3_colourAt_24 : decode cX3_colourAt 24 = .ok (.ireturn, 1) := by decide +kernel
theorem dX3_colourAt_25 : decode cX3_colourAt 25 = .ok (.aload_n 0, 1) := by decide +kernel
theorem dX3_colourAt_26 : decode cX3_colourAt 26 = .ok (.getfield 14, 3) := by decide +kernel
theorem dX3_colourAt_29 : decode cX3_colourAt 29 = .ok (.aload_n 0, 1) := by decide +kernel
theorem dX3_colourAt_30 : decode cX3_colourAt 30 = .ok (.getfield 20, 3) := by decide +kernel
theorem dX3_colourAt_33 : decode cX3_colourAt 33 = .ok (.iconst 2, 1) := by decide +kernel
theorem dX3_colourAt_34 : decode cX3_colourAt 34 = .ok (.iaload, 1) := by decide +kernel
theorem dX3_colourAt_35 : decode cX3_colourAt 35 = .ok (.bipush 15, 2) := by decide +kernel
theorem dX3_colourAt_37 : decode cX3_colourAt 37 = .ok (.iand, 1) := by decide +kernel
theorem dX3_colourAt_38 : decode cX3_colourAt 38 = .ok (.sipush 1024, 3) := by decide +kernel
theorem dX3_colourAt_41 : decode cX3_colourAt 41 = .ok (.imul, 1) := by decide +kernel
theorem dX3_colourAt_42 : decode cX3_colourAt 42 = .ok (.bipush 32, 2) := by decide +kernel
theorem dX3_colourAt_44 : decode cX3_colourAt 44 = .ok (.iload_n 2, 1) := by decide +kernel
theorem dX3_colourAt_45 : decode cX3_colourAt 45 = .ok (.iconst 3, 1) := by decide +kernel
theorem dX3_colourAt_46 : decode cX3_colourAt 46 = .ok (.ishr, 1) := by decide +kernel
theorem dX3_colourAt_47 : decode cX3_colourAt 47 = .ok (.imul, 1) := by decide +kernel
theorem dX3_colourAt_48 : decode cX3_colourAt 48 = .ok (.iadd, 1) := by decide +kernel
theorem dX3_colourAt_49 : decode cX3_colourAt 49 = .ok (.iload_n 1, 1) := by decide +kernel
theorem dX3_colourAt_50 : decode cX3_colourAt 50 = .ok (.iconst 3, 1) := by decide +kernel
theorem dX3_colourAt_51 : decode cX3_colourAt 51 = .ok (.ishr, 1) := by decide +kernel
theorem dX3_colourAt_52 : decode cX3_colourAt 52 = .ok (.iadd, 1) := by decide +kernel
theorem dX3_colourAt_53 : decode cX3_colourAt 53 = .ok (.invokevirtual 34, 3) := by decide +kernel
theorem dX3_colourAt_56 : decode cX3_colourAt 56 = .ok (.istore 4, 2) := by decide +kernel
theorem dX3_colourAt_58 : decode cX3_colourAt 58 = .ok (.aload_n 0, 1) := by decide +kernel
theorem dX3_colourAt_59 : decode cX3_colourAt 59 = .ok (.getfield 14, 3) := by decide +kernel
theorem dX3_colourAt_62 : decode cX3_colourAt 62 = .ok (.aload_n 0, 1) := by decide +kernel
theorem dX3_colourAt_63 : decode cX3_colourAt 63 = .ok (.getfield 20, 3) := by decide +kernel
theorem dX3_colourAt_66 : decode cX3_colourAt 66 = .ok (.iconst 4, 1) := by decide +kernel
theorem dX3_colourAt_67 : decode cX3_colourAt 67 = .ok (.iaload, 1) := by decide +kernel
theorem dX3_colourAt_68 : decode cX3_colourAt 68 = .ok (.bipush 7, 2) := by decide +kernel
theorem dX3_colourAt_70 : decode cX3_colourAt 70 = .ok (.iand, 1) := by decide +kernel
theorem dX3_colourAt_71 : decode cX3_colourAt 71 = .ok (.sipush 2048, 3) := by decide +kernel
theorem dX3_colourAt_74 : decode cX3_colourAt 74 = .ok (.imul, 1) := by decide +kernel
theorem dX3_colourAt_75 : decode cX3_colourAt 75 = .ok (.bipush 8, 2) := by decide +kernel
theorem dX3_colourAt_77 : decode cX3_colourAt 77 = .ok (.iload 4, 2) := by decide +kernel
theorem dX3_colourAt_79 : decode cX3_colourAt 79 = .ok (.imul, 1) := by decide +kernel
theorem dX3_colourAt_80 : decode cX3_colourAt 80 = .ok (.iadd, 1) := by decide +kernel
theorem dX3_colourAt_81 : decode cX3_colourAt 81 = .ok (.iload_n 2, 1) := by decide +kernel
theorem dX3_colourAt_82 : decode cX3_colourAt 82 = .ok (.bipush 7, 2) := by decide +kernel
theorem dX3_colourAt_84 : decode cX3_colourAt 84 = .ok (.iand, 1) := by decide +kernel
theorem dX3_colourAt_85 : decode cX3_colourAt 85 = .ok (.iadd, 1) := by decide +kernel
theorem dX3_colourAt_86 : decode cX3_colourAt 86 = .ok (.invokevirtual 34, 3) := by decide +kernel
theorem dX3_colourAt_89 : decode cX3_colourAt 89 = .ok (.istore 5, 2) := by decide +kernel
theorem dX3_colourAt_91 : decode cX3_colourAt 91 = .ok (.aload_n 0, 1) := by decide +kernel
theorem dX3_colourAt_92 : decode cX3_colourAt 92 = .ok (.getfield 14, 3) := by decide +kernel
theorem dX3_colourAt_95 : decode cX3_colourAt 95 = .ok (.aload_n 0, 1) := by decide +kernel
theorem dX3_colourAt_96 : decode cX3_colourAt 96 = .ok (.getfield 20, 3) := by decide +kernel
theorem dX3_colourAt_99 : decode cX3_colourAt 99 = .ok (.iconst 3, 1) := by decide +kernel
theorem dX3_colourAt_100 : decode cX3_colourAt 100 = .ok (.iaload, 1) := by decide +kernel
theorem dX3_colourAt_101 : decode cX3_colourAt 101 = .ok (.bipush 64, 2) := by decide +kernel
theorem dX3_colourAt_103 : decode cX3_colourAt 103 = .ok (.imul, 1) := by decide +kernel
theorem dX3_colourAt_104 : decode cX3_colourAt 104 = .ok (.iload 4, 2) := by decide +kernel
theorem dX3_colourAt_106 : decode cX3_colourAt 106 = .ok (.iconst 3, 1) := by decide +kernel
theorem dX3_colourAt_107 : decode cX3_colourAt 107 = .ok (.ishr, 1) := by decide +kernel
theorem dX3_colourAt_108 : decode cX3_colourAt 108 = .ok (.iadd, 1) := by decide +kernel
theorem dX3_colourAt_109 : decode cX3_colourAt 109 = .ok (.sipush 16383, 3) := by decide +kernel
theorem dX3_colourAt_112 : decode cX3_colourAt 112 = .ok (.iand, 1) := by decide +kernel
theorem dX3_colourAt_113 : decode cX3_colourAt 113 = .ok (.invokevirtual 34, 3) := by decide +kernel
theorem dX3_colourAt_116 : decode cX3_colourAt 116 = .ok (.istore 6, 2) := by decide +kernel
theorem dX3_colourAt_118 : decode cX3_colourAt 118 = .ok (.iload 5, 2) := by decide +kernel
theorem dX3_colourAt_120 : decode cX3_colourAt 120 = .ok (.bipush 7, 2) := by decide +kernel
theorem dX3_colourAt_122 : decode cX3_colourAt 122 = .ok (.iload_n 1, 1) := by decide +kernel
theorem dX3_colourAt_123 : decode cX3_colourAt 123 = .ok (.bipush 7, 2) := by decide +kernel
theorem dX3_colourAt_125 : decode cX3_colourAt 125 = .ok (.iand, 1) := by decide +kernel
theorem dX3_colourAt_126 : decode cX3_colourAt 126 = .ok (.isub, 1) := by decide +kernel
theorem dX3_colourAt_127 : decode cX3_colourAt 127 = .ok (.ishr, 1) := by decide +kernel
theorem dX3_colourAt_128 : decode cX3_colourAt 128 = .ok (.iconst 1, 1) := by decide +kernel
theorem dX3_colourAt_129 : decode cX3_colourAt 129 = .ok (.iand, 1) := by decide +kernel
theorem dX3_colourAt_130 : decode cX3_colourAt 130 = .ok (.iconst 1, 1) := by decide +kernel
theorem dX3_colourAt_131 : decode cX3_colourAt 131 = .ok (.if_icmp .ne 7, 3) := by decide +kernel
theorem dX3_colourAt_134 : decode cX3_colourAt 134 = .ok (.iconst 1, 1) := by decide +kernel
theorem dX3_colourAt_135 : decode cX3_colourAt 135 = .ok (.goto 4, 3) := by decide +kernel
theorem dX3_colourAt_138 : decode cX3_colourAt 138 = .ok (.iconst 0, 1) := by decide +kernel
theorem dX3_colourAt_139 : decode cX3_colourAt 139 = .ok (.istore 7, 2) := by decide +kernel
theorem dX3_colourAt_141 : decode cX3_colourAt 141 = .ok (.iload 7, 2) := by decide +kernel
theorem dX3_colourAt_143 : decode cX3_colourAt 143 = .ok (.ifCond .eq 10, 3) := by decide +kernel
theorem dX3_colourAt_146 : decode cX3_colourAt 146 = .ok (.iload 6, 2) := by decide +kernel
theorem dX3_colourAt_148 : decode cX3_colourAt 148 = .ok (.iconst 4, 1) := by decide +kernel
theorem dX3_colourAt_149 : decode cX3_colourAt 149 = .ok (.ishr, 1) := by decide +kernel
theorem dX3_colourAt_150 : decode cX3_colourAt 150 = .ok (.goto 8, 3) := by decide +kernel
