set_option maxRecDepth 20000 in
theorem ggX6_out_X5_sent : GoodIn wsX6_out wsX5_sent := goodIn_r _ [9, 10, 18, 19, 20] (by decide +kernel) (by decide +kernel)
set_option maxRecDepth 20000 in
theorem gX6_out_X5_sent : GoodIn wsX6_out (wsV RX6 173 RX5 yX5_sent wsX5_sent) := goodIn_app (goodIn_of _ (by decide +kernel)) ggX6_out_X5_sent
theorem dX6_out_0 : decode cX6_out 0 = .ok (.iload_n 1, 1) := by decide +kernel
theorem dX6_out_1 : decode cX6_out 1 = .ok (.invokestatic 169, 3) := by decide +kernel
theorem dX6_out_4 : decode cX6_out 4 = .ok (.ifCond .eq 14, 3) := by decide +kernel
theorem dX6_out_7 : decode cX6_out 7 = .ok (.aload_n 0, 1) := by decide +kernel
theorem dX6_out_8 : decode cX6_out 8 = .ok (.getfield 37, 3) := by decide +kernel
theorem dX6_out_11 : decode cX6_out 11 = .ok (.iload_n 1, 1) := by decide +kernel
theorem dX6_out_12 : decode cX6_out 12 = .ok (.invokevirtual 173, 3) := by decide +kernel
theorem dX6_out_15 : decode cX6_out 15 = .ok (.goto 4, 3) := by decide +kernel
theorem dX6_out_18 : decode cX6_out 18 = .ok (.iconst (-1), 1) := by decide +kernel
theorem dX6_out_19 : decode cX6_out 19 = .ok (.ireturn, 1) := by decide +kernel
set_option maxRecDepth 20000 in
theorem ggX6_in_X5_exists : GoodIn wsX6_in wsX5_exists := goodIn_r _ [5] (by decide +kernel) (by decide +kernel)
set_option maxRecDepth 20000 in
theorem gX6_in_X5_exists : GoodIn wsX6_in (va_wsS RX6 169 yX5_exists wsX5_exists) := goodIn_app (goodIn_of _ (by decide +kernel)) ggX6_in_X5_exists
set_option maxRecDepth 20000 in
theorem ggX6_in_X5_coming : GoodIn wsX6_in wsX5_coming := goodIn_r _ [9, 10, 11, 12, 13, 14, 15, 4, 16, 17, 25, 26, 27, 28, 29, 30, 31, 32, 33] (by decide +kernel) (by decide +kernel)
set_option maxRecDepth 20000 in
theorem gX6_in_X5_coming : GoodIn wsX6_in (wsV RX6 176 RX5 yX5_coming wsX5_coming) := goodIn_app (goodIn_of _ (by decide +kernel)) ggX6_in_X5_coming
theorem dX6_in_0 : decode cX6_in 0 = .ok (.iload_n 1, 1) := by decide +kernel
theorem dX6_in_1 : decode cX6_in 1 = .ok (.invokestatic 169, 3) := by decide +kernel
theorem dX6_in_4 : decode cX6_in 4 = .ok (.ifCond .eq 14, 3) := by decide +kernel
theorem dX6_in_7 : decode cX6_in 7 = .ok (.aload_n 0, 1) := by decide +kernel
theorem dX6_in_8 : decode cX6_in 8 = .ok (.getfield 37, 3) := by decide +kernel
theorem dX6_in_11 : decode cX6_in 11 = .ok (.iload_n 1, 1) := by decide +kernel
theorem dX6_in_12 : decode cX6_in 12 = .ok (.invokevirtual 176, 3) := by decide +kernel
theorem dX6_in_15 : decode cX6_in 15 = .ok (.goto 4, 3) := by decide +kernel
theorem dX6_in_18 : decode cX6_in 18 = .ok (.iconst (-1), 1) := by decide +kernel
theorem dX6_in_19 : decode cX6_in 19 = .ok (.ireturn, 1) := by decide +kernel
set_option maxRecDepth 20000 in
theorem ggX6_pixel_X3_colourAt : GoodIn wsX6_pixel wsX3_colourAt := goodIn_r _ [6, 7, 8, 9, 10, 11, 12, 13, 14, 22, 23, 24, 25, 26, 27, 28] (by decide +kernel) (by decide +kernel)
set_option maxRecDepth 20000 in
theorem gX6_pixel_X3_colourAt : GoodIn wsX6_pixel (wsV RX6 179 RX3 yX3_colourAt wsX3_colourAt) := goodIn_app (goodIn_of _ (by decide +kernel)) ggX6_pixel_X3_colourAt
theorem dX6_pixel_0 : decode cX6_pixel 0 = .ok (.iload_n 1, 1) := by decide +kernel
theorem dX6_pixel_1 : decode cX6_pixel 1 = .ok (.ifCond .lt 21, 3) := by decide +kernel
theorem dX6_pixel_4 : decode cX6_pixel 4 = .ok (.iload_n 1, 1) := by decide +kernel
theorem dX6_pixel_5 : decode cX6_pixel 5 = .ok (.sipush 255, 3) := by decide +kernel
theorem dX6_pixel_8 : decode cX6_pixel 8 = .ok (.if_icmp .gt 14, 3) := by decide +kernel
theorem dX6_pixel_11 : decode cX6_pixel 11 = .ok (.iload_n 2, 1) := by decide +kernel
theorem dX6_pixel_12 : decode cX6_pixel 12 = .ok (.ifCond .lt 10, 3) := by decide +kernel
theorem dX6_pixel_15 : decode cX6_pixel 15 = .ok (.iload_n 2, 1) := by decide +kernel
theorem dX6_pixel_16 : decode cX6_pixel 16 = .ok (.sipush 191, 3) := by decide +kernel
theorem dX6_pixel_19 : decode cX6_pixel 19 = .ok (.if_icmp .le 5, 3) := by decide +kernel
theorem dX6_pixel_22 : decode cX6_pixel 22 = .ok (.iconst (-1), 1) := by decide +kernel
theorem dX6_pixel_23 : decode cX6_pixel 23 = .ok (.ireturn, 1) := by decide +kernel
theorem dX6_pixel_24 : decode cX6_pixel 24 = .ok (.aload_n 0, 1) := by decide +kernel
theorem dX6_pixel_25 : decode cX6_pixel 25 = .ok (.getfield 21, 3) := by decide +kernel
theorem dX6_pixel_28 : decode cX6_pixel 28 = .ok (.iload_n 1, 1) := by decide +kernel
theorem dX6_pixel_29 : decode cX6_pixel 29 = .ok (.iload_n 2, 1) := by decide +kernel
theorem dX6_pixel_30 : decode cX6_pixel 30 = .ok (.invokevirtual 179, 3) := by decide +kernel
theorem dX6_pixel_33 : decode cX6_pixel 33 = .ok (.ireturn, 1) := by decide +kernel
theorem dX7_init_0 : decode cX7_init 0 = .ok (.aload_n 0, 1) := by decide +kernel
theorem dX7_init_1 : decode cX7_init 1 = .ok (.invokespecial 1, 3) := by decide +kernel
theorem dX7_init_4 : decode cX7_init 4 = .ok (.aload_n 0, 1) := by decide +kernel
theorem dX7_init_5 : decode cX7_init 5 = .ok (.sipush 8192, 3) := by decide +kernel
theorem dX7_init_8 : decode cX7_init 8 = .ok (.newarray .byte, 2) := by decide +kernel
theorem dX7_init_10 : decode cX7_init 10 = .ok (.putfield 7, 3) := by decide +kernel
theorem dX7_init_13 : decode cX7_init 13 = .ok (.aload_n 0, 1) := by decide +kernel
theorem dX7_init_14 : decode cX7_init 14 = .ok (.ldc 13, 2) := by decide +kernel
theorem dX7_init_16 : decode cX7_init 16 = .ok (.newarray .byte, 2) := by decide +kernel
theorem dX7_init_18 : decode cX7_init 18 = .ok (.putfield 14, 3) := by decide +kernel
theorem dX7_init_21 : decode cX7_init 21 = .ok (.aload_n 0, 1) := by decide +kernel
theorem dX7_init_22 : decode cX7_init 22 = .ok (.sipush 16384, 3) := by decide +kernel
theorem dX7_init_25 : decode cX7_init 25 = .ok (.newarray .byte, 2) := by decide +kernel
theorem dX7_init_27 : decode cX7_init 27 = .ok (.putfield 17, 3) := by decide +kernel
theorem dX7_init_30 : decode cX7_init 30 = .ok (.aload_n 0, 1) := by decide +kernel
theorem dX7_init_31 : decode cX7_init 31 = .ok (.sipush 8192, 3) := by decide +kernel
theorem dX7_init_34 : decode cX7_init 34 = .ok (.newarray .byte, 2) := by decide +kernel
theorem dX7_init_36 : decode cX7_init 36 = .ok (.putfield 20, 3) := by decide +kernel
theorem dX7_init_39 : decode cX7_init 39 = .ok (.aload_n 0, 1) := by decide +kernel
theorem dX7_init_40 : decode cX7_init 40 = .ok (.bipush 8, 2) := by decide +kernel
theorem dX7_init_42 : decode cX7_init 42 = .ok (.newarray .int, 2) := by decide +kernel
theorem dX7_init_44 : decode cX7_init 44 = .ok (.putfield 23, 3) := by decide +kernel
theorem dX7_init_47 : decode cX7_init 47 = .ok (.aload_n 0, 1) := by decide +kernel
theorem dX7_init_48 : decode cX7_init 48 = .ok (.sipush 4096, 3) := by decide +kernel
theorem dX7_init_51 : decode cX7_init 51 = .ok (.newarray .boolean, 2) := by decide +kernel
theorem dX7_init_53 : decode cX7_init 53 = .ok (.putfield 27, 3) := by decide +kernel
theorem dX7_init_56 : decode cX7_init 56 = .ok (.aload_n 0, 1) := by decide +kernel
theorem dX7_init_57 : decode cX7_init 57 = .ok (.bipush 64, 2) := by decide +kernel
theorem dX7_init_59 : decode cX7_init 59 = .ok (.newarray .boolean, 2) := by decide +kernel
theorem dX7_init_61 : decode cX7_init 61 = .ok (.putfield 31, 3) := by decide +kernel
theorem dX7_init_64 : decode cX7_init 64 = .ok (.aload_n 0, 1) := by decide +kernel
theorem dX7_init_65 : decode cX7_init 65 = .ok (.iconst 2, 1) := by decide +kernel
theorem dX7_init_66 : decode cX7_init 66 = .ok (.putfield 34, 3) := by decide +kernel
theorem dX7_init_69 : decode cX7_init 69 = .ok (.aload_n 0, 1) := by decide +kernel
theorem dX7_init_70 : decode cX7_init 70 = .ok (.bipush 16, 2) := by decide +kernel
theorem dX7_init_72 : decode cX7_init 72 = .ok (.newarray .boolean, 2) := by decide +kernel
theorem dX7_init_74 : decode cX7_init 74 = .ok (.putfield 38, 3) := by decide +kernel
theorem dX7_init_77 : decode cX7_init 77 = .ok (.aload_n 0, 1) := by decide +kernel
theorem dX7_init_78 : decode cX7_init 78 = .ok (.sipush 1000, 3) := by decide +kernel
theorem dX7_init_81 : decode cX7_init 81 = .ok (.newarray .int, 2) := by decide +kernel
theorem dX7_init_83 : decode cX7_init 83 = .ok (.putfield 41, 3) := by decide +kernel
theorem dX7_init_86 : decode cX7_init 86 = .ok (.return_, 1) := by decide +kernel
theorem dX7_thrown_0 : decode cX7_thrown 0 = .ok (.aload_n 0, 1) := by decide +kernel
theorem dX7_thrown_1 : decode cX7_thrown 1 = .ok (.getfield 44, 3) := by decide +kernel
theorem dX7_thrown_4 : decode cX7_thrown 4 = .ok (.ireturn, 1) := by decide +kernel
theorem dX7_in_0 : decode cX7_in 0 = .ok (.iload_n 0, 1) := by decide +kernel
theorem dX7_in_1 : decode cX7_in 1 = .ok (.iload_n 1, 1) := by decide +kernel
theorem dX7_in_2 : decode cX7_in 2 = .ok (.if_icmp .lt 12, 3) := by decide +kernel
theorem dX7_in_5 : decode cX7_in 5 = .ok (.iload_n 0, 1) := by decide +kernel
theorem dX7_in_6 : decode cX7_in 6 = .ok (.iload_n 2, 1) := by decide +kernel
theorem dX7_in_7 : decode cX7_in 7 = .ok (.if_icmp .gt 7, 3) := by decide +kernel
theorem dX7_in_10 : decode cX7_in 10 = .ok (.iconst 1, 1) := by decide +kernel
theorem dX7_in_11 : decode cX7_in 11 = .ok (.goto 4, 3) := by decide +kernel
theorem dX7_in_14 : decode cX7_in 14 = .ok (.iconst 0, 1) := by decide +kernel
theorem dX7_in_15 : decode cX7_in 15 = .ok (.ireturn, 1) := by decide +kernel
set_option maxRecDepth 20000 in
theorem ggX7_plain_X7_in : GoodIn wsX7_plain wsX7_in := goodIn_r _ [9] (by decide +kernel) (by decide +kernel)
set_option maxRecDepth 20000 in
theorem gX7_plain_X7_in : GoodIn wsX7_plain (va_wsS RX7 47 yX7_in wsX7_in) := goodIn_app (goodIn_of _ (by decide +kernel)) ggX7_plain_X7_in
theorem dX7_plain_0 : decode cX7_plain 0 = .ok (.iload_n 1, 1) := by decide +kernel
theorem dX7_plain_1 : decode cX7_plain 1 = .ok (.sipush 8192, 3) := by decide +kernel
theorem dX7_plain_4 : decode cX7_plain 4 = .ok (.if_icmp .ge 14, 3) := by decide +kernel
theorem dX7_plain_7 : decode cX7_plain 7 = .ok (.aload_n 0, 1) := by decide +kernel
theorem dX7_plain_8 : decode cX7_plain 8 = .ok (.getfield 7, 3) := by decide +kernel
theorem dX7_plain_11 : decode cX7_plain 11 = .ok (.iload_n 1, 1) := by decide +kernel
theorem dX7_plain_12 : decode cX7_plain 12 = .ok (.baload, 1) := by decide +kernel
theorem dX7_plain_13 : decode cX7_plain 13 = .ok (.sipush 255, 3) := by decide +kernel
theorem dX7_plain_16 : decode cX7_plain 16 = .ok (.iand, 1) := by decide +kernel
theorem dX7_plain_17 : decode cX7_plain 17 = .ok (.ireturn, 1) := by decide +kernel
theorem dX7_plain_18 : decode cX7_plain 18 = .ok (.iload_n 1, 1) := by decide +kernel
theorem dX7_plain_19 : decode cX7_plain 19 = .ok (.sipush 8192, 3) := by decide +kernel
theorem dX7_plain_22 : decode cX7_plain 22 = .ok (.sipush 16383, 3) := by decide +kernel
theorem dX7_plain_25 : decode cX7_plain 25 = .ok (.invokestatic 47, 3) := by decide +kernel
theorem dX7_plain_28 : decode cX7_plain 28 = .ok (.ifCond .ne 9, 3) := by decide +kernel
theorem dX7_plain_31 : decode cX7_plain 31 = .ok (.iload_n 1, 1) := by decide +kernel
theorem dX7_plain_32 : decode cX7_plain 32 = .ok (.ldc 51, 2) := by decide +kernel
theorem dX7_plain_34 : decode cX7_plain 34 = .ok (.if_icmp .lt 14, 3) := by decide +kernel
theorem dX7_plain_37 : decode cX7_plain 37 = .ok (.aload_n 0, 1) := by decide +kernel
theorem dX7_plain_38 : decode cX7_plain 38 = .ok (.getfield 14, 3) := by decide +kernel
theorem dX7_plain_41 : decode cX7_plain 41 = .ok (.iload_n 1, 1) := by decide +kernel
theorem dX7_plain_42 : decode cX7_plain 42 = .ok (.baload, 1) := by decide +kernel
theorem dX7_plain_43 : decode cX7_plain 43 = .ok (.sipush 255, 3) := by decide +kernel
theorem dX7_plain_46 : decode cX7_plain 46 = .ok (.iand, 1) := by decide +kernel
theorem dX7_plain_47 : decode cX7_plain 47 = .ok (.ireturn, 1) := by decide +kernel
theorem dX7_plain_48 : decode cX7_plain 48 = .ok (.iload_n 1, 1) := by decide +kernel
theorem dX7_plain_49 : decode cX7_plain 49 = .ok (.ldc 52, 2) := by decide +kernel
theorem dX7_plain_51 : decode cX7_plain 51 = .ok (.ldc 53, 2) := by decide +kernel
theorem dX7_plain_53 : decode cX7_plain 53 = .ok (.invokestatic 47, 3) := by decide +kernel
theorem dX7_plain_56 : decode cX7_plain 56 = .ok (.ifCond .eq 23, 3) := by decide +kernel
theorem dX7_plain_59 : decode cX7_plain 59 = .ok (.aload_n 0, 1) := by decide +kernel
theorem dX7_plain_60 : decode cX7_plain 60 = .ok (.getfield 14, 3) := by decide +kernel
theorem dX7_plain_63 : decode cX7_plain 63 = .ok (.ldc 52, 2) := by decide +kernel
theorem dX7_plain_65 : decode cX7_plain 65 = .ok (.iload_n 1, 1) := by decide +kernel
theorem dX7_plain_66 : decode cX7_plain 66 = .ok (.sipush 256, 3) := by decide +kernel
theorem dX7_plain_69 : decode cX7_plain 69 = .ok (.irem, 1) := by decide +kernel
theorem dX7_plain_70 : decode cX7_plain 70 = .ok (.iadd, 1) := by decide +kernel
theorem dX7_plain_71 : decode cX7_plain 71 = .ok (.baload, 1) := by decide +kernel
theorem dX7_plain_72 : decode cX7_plain 72 = .ok (.sipush 255, 3) := by decide +kernel
theorem dX7_plain_75 : decode cX7_plain 75 = .ok (.iand, 1) := by decide +kernel
theorem dX7_plain_76 : decode cX7_plain 76 = .ok (.goto 4, 3) := by decide +kernel
theorem dX7_plain_79 : decode cX7_plain 79 = .ok (.iconst 0, 1) := by decide +kernel
theorem dX7_plain_80 : decode cX7_plain 80 = .ok (.ireturn, 1) := by decide +kernel
set_option maxRecDepth 20000 in
theorem ggX7_isPort_X7_in : GoodIn wsX7_isPort wsX7_in := goodIn_r _ [6] (by decide +kernel) (by decide +kernel)
set_option maxRecDepth 20000 in
theorem gX7_isPort_X7_in : GoodIn wsX7_isPort (va_wsS RX7 47 yX7_in wsX7_in) := goodIn_app (goodIn_of _ (by decide +kernel)) ggX7_isPort_X7_in
theorem dX7_isPort_0 : decode cX7_isPort 0 = .ok (.iload_n 0, 1) := by decide +kernel
theorem dX7_isPort_1 : decode cX7_isPort 1 = .ok (.ldc 54, 2) := by decide +kernel
theorem dX7_isPort_3 : decode cX7_isPort 3 = .ok (.ldc 55, 2) := by decide +kernel
theorem dX7_isPort_5 : decode cX7_isPort 5 = .ok (.invokestatic 47, 3) := by decide +kernel
theorem dX7_isPort_8 : decode cX7_isPort 8 = .ok (.ifCond .eq 13, 3) := by decide +kernel
theorem dX7_isPort_11 : decode cX7_isPort 11 = .ok (.iload_n 0, 1) := by decide +kernel
theorem dX7_isPort_12 : decode cX7_isPort 12 = .ok (.iconst 2, 1) := by decide +kernel
theorem dX7_isPort_13 : decode cX7_isPort 13 = .ok (.irem, 1) := by decide +kernel
theorem dX7_isPort_14 : decode cX7_isPort 14 = .ok (.ifCond .ne 7, 3) := by decide +kernel
theorem dX7_isPort_17 : decode cX7_isPort 17 = .ok (.iconst 1, 1) := by decide +kernel
theorem dX7_isPort_18 : decode cX7_isPort 18 = .ok (.goto 4, 3) := by decide +kernel
theorem dX7_isPort_21 : decode cX7_isPort 21 = .ok (.iconst 0, 1) := by decide +kernel
theorem dX7_isPort_22 : decode cX7_isPort 22 = .ok (.ireturn, 1) := by decide +kernel
set_option maxRecDepth 20000 in
theorem ggX7_inOf_X7_in : GoodIn wsX7_inOf wsX7_in := goodIn_r _ [7] (by decide +kernel) (by decide +kernel)
set_option maxRecDepth 20000 in
theorem gX7_inOf_X7_in : GoodIn wsX7_inOf (va_wsS RX7 47 yX7_in wsX7_in) := goodIn_app (goodIn_of _ (by decide +kernel)) ggX7_inOf_X7_in
theorem dX7_inOf_0 : decode cX7_inOf 0 = .ok (.iload_n 1, 1) := by decide +kernel
theorem dX7_inOf_1 : decode cX7_inOf 1 = .ok (.iconst 2, 1) := by decide +kernel
theorem dX7_inOf_2 : decode cX7_inOf 2 = .ok (.if_icmp .ne 16, 3) := by decide +kernel
theorem dX7_inOf_5 : decode cX7_inOf 5 = .ok (.aload_n 0, 1) := by decide +kernel
theorem dX7_inOf_6 : decode cX7_inOf 6 = .ok (.getfield 99, 3) := by decide +kernel
theorem dX7_inOf_9 : decode cX7_inOf 9 = .ok (.ifCond .eq 7, 3) := by decide +kernel
theorem dX7_inOf_12 : decode cX7_inOf 12 = .ok (.iconst 0, 1) := by decide +kernel
theorem dX7_inOf_13 : decode cX7_inOf 13 = .ok (.goto 4, 3) := by decide +kernel
theorem dX7_inOf_16 : decode cX7_inOf 16 = .ok (.iconst 1, 1) := by decide +kernel
theorem dX7_inOf_17 : decode cX7_inOf 17 = .ok (.ireturn, 1) := by decide +kernel
theorem dX7_inOf_18 : decode cX7_inOf 18 = .ok (.iload_n 1, 1) := by decide +kernel
theorem dX7_inOf_19 : decode cX7_inOf 19 = .ok (.iconst 3, 1) := by decide +kernel
theorem dX7_inOf_20 : decode cX7_inOf 20 = .ok (.bipush 10, 2) := by decide +kernel
theorem dX7_inOf_22 : decode cX7_inOf 22 = .ok (.invokestatic 47, 3) := by decide +kernel
theorem dX7_inOf_25 : decode cX7_inOf 25 = .ok (.ifCond .eq 73, 3) := by decide +kernel
theorem dX7_inOf_28 : decode cX7_inOf 28 = .ok (.aload_n 0, 1) := by decide +kernel
theorem dX7_inOf_29 : decode cX7_inOf 29 = .ok (.getfield 27, 3) := by decide +kernel
theorem dX7_inOf_32 : decode cX7_inOf 32 = .ok (.bipush 18, 2) := by decide +kernel
theorem dX7_inOf_34 : decode cX7_inOf 34 = .ok (.baload, 1) := by decide +kernel
theorem dX7_inOf_35 : decode cX7_inOf 35 = .ok (.ifCond .eq 7, 3) := by decide +kernel
theorem dX7_inOf_38 : decode cX7_inOf 38 = .ok (.iconst 1, 1) := by decide +kernel
theorem dX7_inOf_39 : decode cX7_inOf 39 = .ok (.goto 4, 3) := by decide +kernel
theorem dX7_inOf_42 : decode cX7_inOf 42 = .ok (.iconst 0, 1) := by decide +kernel
theorem dX7_inOf_43 : decode cX7_inOf 43 = .ok (.aload_n 0, 1) := by decide +kernel
theorem dX7_inOf_44 : decode cX7_inOf 44 = .ok (.getfield 27, 3) := by decide +kernel
theorem dX7_inOf_47 : decode cX7_inOf 47 = .ok (.bipush 19, 2) := by decide +kernel
theorem dX7_inOf_49 : decode cX7_inOf 49 = .ok (.baload, 1) := by decide +kernel
theorem dX7_inOf_50 : decode cX7_inOf 50 = .ok (.ifCond .eq 7, 3) := by decide +kernel
theorem dX7_inOf_53 : decode cX7_inOf 53 = .ok (.iconst 2, 1) := by decide +kernel
theorem dX7_inOf_54 : decode cX7_inOf 54 = .ok (.goto 4, 3) := by decide +kernel
theorem dX7_inOf_57 : decode cX7_inOf 57 = .ok (.iconst 0, 1) := by decide +kernel
theorem dX7_inOf_58 : decode cX7_inOf 58 = .ok (.iadd, 1) := by decide +kernel
theorem dX7_inOf_59 : decode cX7_inOf 59 = .ok (.aload_n 0, 1) := by decide +kernel
theorem dX7_inOf_60 : decode cX7_inOf 60 = .ok (.getfield 27, 3) := by decide +kernel
theorem dX7_inOf_63 : decode cX7_inOf 63 = .ok (.bipush 20, 2) := by decide +kernel
theorem dX7_inOf_65 : decode cX7_inOf 65 = .ok (.baload, 1) := by decide +kernel
theorem dX7_inOf_66 : decode cX7_inOf 66 = .ok (.ifCond .eq 7, 3) := by decide +kernel
theorem dX7_inOf_69 : decode cX7_inOf 69 = .ok (.iconst 4, 1) := by decide +kernel
theorem dX7_inOf_70 : decode cX7_inOf 70 = .ok (.goto 4, 3) := by decide +kernel
theorem dX7_inOf_73 : decode cX7_inOf 73 = .ok (.iconst 0, 1) := by decide +kernel
theorem dX7_inOf_74 : decode cX7_inOf 74 = .ok (.iadd, 1) := by decide +kernel
theorem dX7_inOf_75 : decode cX7_inOf 75 = .ok (.istore_n 2, 1) := by decide +kernel
theorem dX7_inOf_76 : decode cX7_inOf 76 = .ok (.aload_n 0, 1) := by decide +kernel
theorem dX7_inOf_77 : decode cX7_inOf 77 = .ok (.getfield 31, 3) := by decide +kernel
theorem dX7_inOf_80 : decode cX7_inOf 80 = .ok (.bipush 8, 2) := by decide +kernel
theorem dX7_inOf_82 : decode cX7_inOf 82 = .ok (.iload_n 2, 1) := by decide +kernel
theorem dX7_inOf_83 : decode cX7_inOf 83 = .ok (.imul, 1) := by decide +kernel
theorem dX7_inOf_84 : decode cX7_inOf 84 = .ok (.iload_n 1, 1) := by decide +kernel
theorem dX7_inOf_85 : decode cX7_inOf 85 = .ok (.iadd, 1) := by decide +kernel
theorem dX7_inOf_86 : decode cX7_inOf 86 = .ok (.iconst 3, 1) := by decide +kernel
theorem dX7_inOf_87 : decode cX7_inOf 87 = .ok (.isub, 1) := by decide +kernel
theorem dX7_inOf_88 : decode cX7_inOf 88 = .ok (.baload, 1) := by decide +kernel
theorem dX7_inOf_89 : decode cX7_inOf 89 = .ok (.ifCond .eq 7, 3) := by decide +kernel
theorem dX7_inOf_92 : decode cX7_inOf 92 = .ok (.iconst 0, 1) := by decide +kernel
theorem dX7_inOf_93 : decode cX7_inOf 93 = .ok (.goto 4, 3) := by decide +kernel
theorem dX7_inOf_96 : decode cX7_inOf 96 = .ok (.iconst 1, 1) := by decide +kernel
theorem dX7_inOf_97 : decode cX7_inOf 97 = .ok (.ireturn, 1) := by decide +kernel
theorem dX7_inOf_98 : decode cX7_inOf 98 = .ok (.aload_n 0, 1) := by decide +kernel
theorem dX7_inOf_99 : decode cX7_inOf 99 = .ok (.getfield 27, 3) := by decide +kernel
theorem dX7_inOf_102 : decode cX7_inOf 102 = .ok (.iload_n 1, 1) := by decide +kernel
theorem dX7_inOf_103 : decode cX7_inOf 103 = .ok (.baload, 1) := by decide +kernel
theorem dX7_inOf_104 : decode cX7_inOf 104 = .ok (.ifCond .eq 7, 3) := by decide +kernel
theorem dX7_inOf_107 : decode cX7_inOf 107 = .ok (.iconst 1, 1) := by decide +kernel
theorem dX7_inOf_108 : decode cX7_inOf 108 = .ok (.goto 4, 3) := by decide +kernel
theorem dX7_inOf_111 : decode cX7_inOf 111 = .ok (.iconst 0, 1) := by decide +kernel
theorem dX7_inOf_112 : decode cX7_inOf 112 = .ok (.ireturn, 1) := by decide +kernel
theorem dX7_registerAt_0 : decode cX7_registerAt 0 = .ok (.aload_n 0, 1) := by decide +kernel
theorem dX7_registerAt_1 : decode cX7_registerAt 1 = .ok (.getfield 115, 3) := by decide +kernel
theorem dX7_registerAt_4 : decode cX7_registerAt 4 = .ok (.iconst 2, 1) := by decide +kernel
theorem dX7_registerAt_5 : decode cX7_registerAt 5 = .ok (.iload_n 1, 1) := by decide +kernel
theorem dX7_registerAt_6 : decode cX7_registerAt 6 = .ok (.imul, 1) := by decide +kernel
theorem dX7_registerAt_7 : decode cX7_registerAt 7 = .ok (.iadd, 1) := by decide +kernel
theorem dX7_registerAt_8 : decode cX7_registerAt 8 = .ok (.ldc 118, 2) := by decide +kernel
theorem dX7_registerAt_10 : decode cX7_registerAt 10 = .ok (.iand, 1) := by decide +kernel
theorem dX7_registerAt_11 : decode cX7_registerAt 11 = .ok (.ireturn, 1) := by decide +kernel
theorem dX7_run_0 : decode cX7_run 0 = .ok (.aload_n 0, 1) := by decide +kernel
theorem dX7_run_1 : decode cX7_run 1 = .ok (.iload_n 1, 1) := by decide +kernel
theorem dX7_run_2 : decode cX7_run 2 = .ok (.iconst 0, 1) := by decide +kernel
theorem dX7_run_3 : decode cX7_run 3 = .ok (.sipush 2000, 3) := by decide +kernel
theorem dX7_run_6 : decode cX7_run 6 = .ok (.invokestatic 47, 3) := by decide +kernel
theorem dX7_run_9 : decode cX7_run 9 = .ok (.ifCond .eq 7, 3) := by decide +kernel
theorem dX7_run_12 : decode cX7_run 12 = .ok (.iconst 0, 1) := by decide +kernel
theorem dX7_run_13 : decode cX7_run 13 = .ok (.goto 4, 3) := by decide +kernel
theorem dX7_run_16 : decode cX7_run 16 = .ok (.iconst 1, 1) := by decide +kernel
theorem dX7_run_17 : decode cX7_run 17 = .ok (.putfield 44, 3) := by decide +kernel
theorem dX7_run_20 : decode cX7_run 20 = .ok (.aload_n 0, 1) := by decide +kernel
theorem dX7_run_21 : decode cX7_run 21 = .ok (.getfield 44, 3) := by decide +kernel
theorem dX7_run_24 : decode cX7_run 24 = .ok (.ifCond .le 5, 3) := by decide +kernel
theorem dX7_run_27 : decode cX7_run 27 = .ok (.iconst 0, 1) := by decide +kernel
theorem dX7_run_28 : decode cX7_run 28 = .ok (.ireturn, 1) := by decide +kernel
theorem dX7_run_29 : decode cX7_run 29 = .ok (.iconst 0, 1) := by decide +kernel
theorem dX7_run_30 : decode cX7_run 30 = .ok (.istore_n 2, 1) := by decide +kernel
theorem dX7_run_31 : decode cX7_run 31 = .ok (.iload_n 2, 1) := by decide +kernel
theorem dX7_run_32 : decode cX7_run 32 = .ok (.iload_n 1, 1) := by decide +kernel
theorem dX7_run_33 : decode cX7_run 33 = .ok (.if_icmp .ge 74, 3) := by decide +kernel
theorem dX7_run_36 : decode cX7_run 36 = .ok (.aload_n 0, 1) := by decide +kernel
theorem dX7_run_37 : decode cX7_run 37 = .ok (.getfield 34, 3) := by decide +kernel
theorem dX7_run_40 : decode cX7_run 40 = .ok (.iconst 2, 1) := by decide +kernel
theorem dX7_run_41 : decode cX7_run 41 = .ok (.if_icmp .eq 66, 3) := by decide +kernel
theorem dX7_run_44 : decode cX7_run 44 = .ok (.aload_n 0, 1) := by decide +kernel
theorem dX7_run_45 : decode cX7_run 45 = .ok (.invokevirtual 239, 3) := by decide +kernel
theorem dX7_run_48 : decode cX7_run 48 = .ok (.aload_n 0, 1) := by decide +kernel
theorem dX7_run_49 : decode cX7_run 49 = .ok (.getfield 34, 3) := by decide +kernel
theorem dX7_run_52 : decode cX7_run 52 = .ok (.iconst 1, 1) := by decide +kernel
theorem dX7_run_53 : decode cX7_run 53 = .ok (.if_icmp .ne 5, 3) := by decide +kernel
theorem dX7_run_56 : decode cX7_run 56 = .ok (.iload_n 2, 1) := by decide +kernel
theorem dX7_run_57 : decode cX7_run 57 = .ok (.ireturn, 1) := by decide +kernel
theorem dX7_run_58 : decode cX7_run 58 = .ok (.aload_n 0, 1) := by decide +kernel
theorem dX7_run_59 : decode cX7_run 59 = .ok (.iconst 0, 1) := by decide +kernel
theorem dX7_run_60 : decode cX7_run 60 = .ok (.putfield 180, 3) := by decide +kernel
theorem dX7_run_63 : decode cX7_run 63 = .ok (.aload_n 0, 1) := by decide +kernel
theorem dX7_run_64 : decode cX7_run 64 = .ok (.getfield 128, 3) := by decide +kernel
theorem dX7_run_67 : decode cX7_run 67 = .ok (.istore_n 3, 1) := by decide +kernel
theorem dX7_run_68 : decode cX7_run 68 = .ok (.aload_n 0, 1) := by decide +kernel
theorem dX7_run_69 : decode cX7_run 69 = .ok (.aload_n 0, 1) := by decide +kernel
theorem dX7_run_70 : decode cX7_run 70 = .ok (.invokevirtual 142, 3) := by decide +kernel
theorem dX7_run_73 : decode cX7_run 73 = .ok (.invokevirtual 196, 3) := by decide +kernel
theorem dX7_run_76 : decode cX7_run 76 = .ok (.ifCond .ne 15, 3) := by decide +kernel
theorem dX7_run_79 : decode cX7_run 79 = .ok (.aload_n 0, 1) := by decide +kernel
theorem dX7_run_80 : decode cX7_run 80 = .ok (.iload_n 3, 1) := by decide +kernel
theorem dX7_run_81 : decode cX7_run 81 = .ok (.putfield 128, 3) := by decide +kernel
theorem dX7_run_84 : decode cX7_run 84 = .ok (.aload_n 0, 1) := by decide +kernel
theorem dX7_run_85 : decode cX7_run 85 = .ok (.iconst 2, 1) := by decide +kernel
theorem dX7_run_86 : decode cX7_run 86 = .ok (.putfield 34, 3) := by decide +kernel
theorem dX7_run_89 : decode cX7_run 89 = .ok (.iload_n 2, 1) := by decide +kernel
theorem dX7_run_90 : decode cX7_run 90 = .ok (.ireturn, 1) := by decide +kernel
theorem dX7_run_91 : decode cX7_run 91 = .ok (.iinc 2 1, 3) := by decide +kernel
theorem dX7_run_94 : decode cX7_run 94 = .ok (.aload_n 0, 1) := by decide +kernel
theorem dX7_run_95 : decode cX7_run 95 = .ok (.dup, 1) := by decide +kernel
theorem dX7_run_96 : decode cX7_run 96 = .ok (.getfield 242, 3) := by decide +kernel
theorem dX7_run_99 : decode cX7_run 99 = .ok (.iconst 1, 1) := by decide +kernel
theorem dX7_run_100 : decode cX7_run 100 = .ok (.iadd, 1) := by decide +kernel
theorem dX7_run_101 : decode cX7_run 101 = .ok (.putfield 242, 3) := by decide +kernel
theorem dX7_run_104 : decode cX7_run 104 = .ok (.goto (-73), 3) := by decide +kernel
theorem dX7_run_107 : decode cX7_run 107 = .ok (.iload_n 2, 1) := by decide +kernel
theorem dX7_run_108 : decode cX7_run 108 = .ok (.ireturn, 1) := by decide +kernel
theorem dX7_feed_0 : decode cX7_feed 0 = .ok (.aload_n 0, 1) := by decide +kernel
theorem dX7_feed_1 : decode cX7_feed 1 = .ok (.iconst 0, 1) := by decide +kernel
theorem dX7_feed_2 : decode cX7_feed 2 = .ok (.putfield 44, 3) := by decide +kernel
theorem dX7_feed_5 : decode cX7_feed 5 = .ok (.aload_n 0, 1) := by decide +kernel
theorem dX7_feed_6 : decode cX7_feed 6 = .ok (.getfield 245, 3) := by decide +kernel
theorem dX7_feed_9 : decode cX7_feed 9 = .ok (.bipush 20, 2) := by decide +kernel
theorem dX7_feed_11 : decode cX7_feed 11 = .ok (.iadd, 1) := by decide +kernel
theorem dX7_feed_12 : decode cX7_feed 12 = .ok (.sipush 1000, 3) := by decide +kernel
theorem dX7_feed_15 : decode cX7_feed 15 = .ok (.if_icmp .le 5, 3) := by decide +kernel
theorem dX7_feed_18 : decode cX7_feed 18 = .ok (.iconst (-1), 1) := by decide +kernel
theorem dX7_feed_19 : decode cX7_feed 19 = .ok (.ireturn, 1) := by decide +kernel
theorem dX7_feed_20 : decode cX7_feed 20 = .ok (.iconst 0, 1) := by decide +kernel
theorem dX7_feed_21 : decode cX7_feed 21 = .ok (.istore 6, 2) := by decide +kernel
theorem dX7_feed_23 : decode cX7_feed 23 = .ok (.iload 6, 2) := by decide +kernel
theorem dX7_feed_25 : decode cX7_feed 25 = .ok (.bipush 20, 2) := by decide +kernel
theorem dX7_feed_27 : decode cX7_feed 27 = .ok (.if_icmp .ge 93, 3) := by decide +kernel
theorem dX7_feed_30 : decode cX7_feed 30 = .ok (.iload 6, 2) := by decide +kernel
theorem dX7_feed_32 : decode cX7_feed 32 = .ok (.iconst 4, 1) := by decide +kernel
theorem dX7_feed_33 : decode cX7_feed 33 = .ok (.if_icmp .ge 7, 3) := by decide +kernel
theorem dX7_feed_36 : decode cX7_feed 36 = .ok (.iload_n 1, 1) := by decide +kernel
theorem dX7_feed_37 : decode cX7_feed 37 = .ok (.goto 39, 3) := by decide +kernel
theorem dX7_feed_40 : decode cX7_feed 40 = .ok (.iload 6, 2) := by decide +kernel
theorem dX7_feed_42 : decode cX7_feed 42 = .ok (.bipush 8, 2) := by decide +kernel
theorem dX7_feed_44 : decode cX7_feed 44 = .ok (.if_icmp .ge 7, 3) := by decide +kernel
theorem dX7_feed_47 : decode cX7_feed 47 = .ok (.iload_n 2, 1) := by decide +kernel
theorem dX7_feed_48 : decode cX7_feed 48 = .ok (.goto 28, 3) := by decide +kernel
theorem dX7_feed_51 : decode cX7_feed 51 = .ok (.iload 6, 2) := by decide +kernel
theorem dX7_feed_53 : decode cX7_feed 53 = .ok (.bipush 12, 2) := by decide +kernel
theorem dX7_feed_55 : decode cX7_feed 55 = .ok (.if_icmp .ge 7, 3) := by decide +kernel
theorem dX7_feed_58 : decode cX7_feed 58 = .ok (.iload_n 3, 1) := by decide +kernel
theorem dX7_feed_59 : decode cX7_feed 59 = .ok (.goto 17, 3) := by decide +kernel
theorem dX7_feed_62 : decode cX7_feed 62 = .ok (.iload 6, 2) := by decide +kernel
theorem dX7_feed_64 : decode cX7_feed 64 = .ok (.bipush 16, 2) := by decide +kernel
theorem dX7_feed_66 : decode cX7_feed 66 = .ok (.if_icmp .ge 8, 3) := by decide +kernel
theorem dX7_feed_69 : decode cX7_feed 69 = .ok (.iload 4, 2) := by decide +kernel
theorem dX7_feed_71 : decode cX7_feed 71 = .ok (.goto 5, 3) := by decide +kernel
theorem dX7_feed_74 : decode cX7_feed 74 = .ok (.iload 5, 2) := by decide +kernel
theorem dX7_feed_76 : decode cX7_feed 76 = .ok (.istore 7, 2) := by decide +kernel
theorem dX7_feed_78 : decode cX7_feed 78 = .ok (.aload_n 0, 1) := by decide +kernel
theorem dX7_feed_79 : decode cX7_feed 79 = .ok (.getfield 41, 3) := by decide +kernel
theorem dX7_feed_82 : decode cX7_feed 82 = .ok (.aload_n 0, 1) := by decide +kernel
theorem dX7_feed_83 : decode cX7_feed 83 = .ok (.getfield 245, 3) := by decide +kernel
theorem dX7_feed_86 : decode cX7_feed 86 = .ok (.iload 7, 2) := by decide +kernel
theorem dX7_feed_88 : decode cX7_feed 88 = .ok (.bipush 24, 2) := by decide +kernel
theorem dX7_feed_90 : decode cX7_feed 90 = .ok (.bipush 8, 2) := by decide +kernel
theorem dX7_feed_92 : decode cX7_feed 92 = .ok (.iload 6, 2) := by decide +kernel
theorem dX7_feed_94 : decode cX7_feed 94 = .ok (.iconst 4, 1) := by decide +kernel
theorem dX7_feed_95 : decode cX7_feed 95 = .ok (.irem, 1) := by decide +kernel
theorem dX7_feed_96 : decode cX7_feed 96 = .ok (.imul, 1) := by decide +kernel
theorem dX7_feed_97 : decode cX7_feed 97 = .ok (.isub, 1) := by decide +kernel
theorem dX7_feed_98 : decode cX7_feed 98 = .ok (.ishr, 1) := by decide +kernel
