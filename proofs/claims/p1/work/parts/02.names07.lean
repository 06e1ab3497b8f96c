theorem dX7_picture_10 : decode cX7_picture 10 = .ok (.invokestatic 47, 3) := by decide +kernel
theorem dX7_picture_13 : decode cX7_picture 13 = .ok (.ifCond .eq 13, 3) := by decide +kernel
theorem dX7_picture_16 : decode cX7_picture 16 = .ok (.aload_n 0, 1) := by decide +kernel
theorem dX7_picture_17 : decode cX7_picture 17 = .ok (.getfield 23, 3) := by decide +kernel
theorem dX7_picture_20 : decode cX7_picture 20 = .ok (.iload_n 1, 1) := by decide +kernel
theorem dX7_picture_21 : decode cX7_picture 21 = .ok (.bipush 8, 2) := by decide +kernel
theorem dX7_picture_23 : decode cX7_picture 23 = .ok (.isub, 1) := by decide +kernel
theorem dX7_picture_24 : decode cX7_picture 24 = .ok (.iaload, 1) := by decide +kernel
theorem dX7_picture_25 : decode cX7_picture 25 = .ok (.ireturn, 1) := by decide +kernel
theorem dX7_picture_26 : decode cX7_picture 26 = .ok (.iload_n 1, 1) := by decide +kernel
theorem dX7_picture_27 : decode cX7_picture 27 = .ok (.tableswitch 65 0 3 #[29, 34, 39, 52], 29) := by decide +kernel
theorem dX7_picture_56 : decode cX7_picture 56 = .ok (.aload_n 0, 1) := by decide +kernel
theorem dX7_picture_57 : decode cX7_picture 57 = .ok (.getfield 80, 3) := by decide +kernel
theorem dX7_picture_60 : decode cX7_picture 60 = .ok (.ireturn, 1) := by decide +kernel
theorem dX7_picture_61 : decode cX7_picture 61 = .ok (.aload_n 0, 1) := by decide +kernel
theorem dX7_picture_62 : decode cX7_picture 62 = .ok (.getfield 83, 3) := by decide +kernel
theorem dX7_picture_65 : decode cX7_picture 65 = .ok (.ireturn, 1) := by decide +kernel
theorem dX7_picture_66 : decode cX7_picture 66 = .ok (.aload_n 0, 1) := by decide +kernel
theorem dX7_picture_67 : decode cX7_picture 67 = .ok (.getfield 95, 3) := by decide +kernel
theorem dX7_picture_70 : decode cX7_picture 70 = .ok (.ifCond .eq 7, 3) := by decide +kernel
theorem dX7_picture_73 : decode cX7_picture 73 = .ok (.iconst 1, 1) := by decide +kernel
theorem dX7_picture_74 : decode cX7_picture 74 = .ok (.goto 4, 3) := by decide +kernel
theorem dX7_picture_77 : decode cX7_picture 77 = .ok (.iconst 0, 1) := by decide +kernel
theorem dX7_picture_78 : decode cX7_picture 78 = .ok (.ireturn, 1) := by decide +kernel
theorem dX7_picture_79 : decode cX7_picture 79 = .ok (.aload_n 0, 1) := by decide +kernel
theorem dX7_picture_80 : decode cX7_picture 80 = .ok (.getfield 99, 3) := by decide +kernel
theorem dX7_picture_83 : decode cX7_picture 83 = .ok (.ifCond .eq 7, 3) := by decide +kernel
theorem dX7_picture_86 : decode cX7_picture 86 = .ok (.iconst 1, 1) := by decide +kernel
theorem dX7_picture_87 : decode cX7_picture 87 = .ok (.goto 4, 3) := by decide +kernel
theorem dX7_picture_90 : decode cX7_picture 90 = .ok (.iconst 0, 1) := by decide +kernel
theorem dX7_picture_91 : decode cX7_picture 91 = .ok (.ireturn, 1) := by decide +kernel
theorem dX7_picture_92 : decode cX7_picture 92 = .ok (.iconst (-1), 1) := by decide +kernel
theorem dX7_picture_93 : decode cX7_picture 93 = .ok (.ireturn, 1) := by decide +kernel
set_option maxRecDepth 20000 in
theorem ggX7_vram_X7_in : GoodIn wsX7_vram wsX7_in := goodIn_r _ [6] (by decide +kernel) (by decide +kernel)
set_option maxRecDepth 20000 in
theorem gX7_vram_X7_in : GoodIn wsX7_vram (va_wsS RX7 47 yX7_in wsX7_in) := goodIn_app (goodIn_of _ (by decide +kernel)) ggX7_vram_X7_in
theorem dX7_vram_0 : decode cX7_vram 0 = .ok (.aload_n 0, 1) := by decide +kernel
theorem dX7_vram_1 : decode cX7_vram 1 = .ok (.iload_n 1, 1) := by decide +kernel
theorem dX7_vram_2 : decode cX7_vram 2 = .ok (.iconst 0, 1) := by decide +kernel
theorem dX7_vram_3 : decode cX7_vram 3 = .ok (.sipush 16383, 3) := by decide +kernel
theorem dX7_vram_6 : decode cX7_vram 6 = .ok (.invokestatic 47, 3) := by decide +kernel
theorem dX7_vram_9 : decode cX7_vram 9 = .ok (.ifCond .eq 7, 3) := by decide +kernel
theorem dX7_vram_12 : decode cX7_vram 12 = .ok (.iconst 0, 1) := by decide +kernel
theorem dX7_vram_13 : decode cX7_vram 13 = .ok (.goto 4, 3) := by decide +kernel
theorem dX7_vram_16 : decode cX7_vram 16 = .ok (.iconst 1, 1) := by decide +kernel
theorem dX7_vram_17 : decode cX7_vram 17 = .ok (.putfield 44, 3) := by decide +kernel
theorem dX7_vram_20 : decode cX7_vram 20 = .ok (.aload_n 0, 1) := by decide +kernel
theorem dX7_vram_21 : decode cX7_vram 21 = .ok (.getfield 44, 3) := by decide +kernel
theorem dX7_vram_24 : decode cX7_vram 24 = .ok (.ifCond .le 7, 3) := by decide +kernel
theorem dX7_vram_27 : decode cX7_vram 27 = .ok (.iconst 0, 1) := by decide +kernel
theorem dX7_vram_28 : decode cX7_vram 28 = .ok (.goto 13, 3) := by decide +kernel
theorem dX7_vram_31 : decode cX7_vram 31 = .ok (.aload_n 0, 1) := by decide +kernel
theorem dX7_vram_32 : decode cX7_vram 32 = .ok (.getfield 17, 3) := by decide +kernel
theorem dX7_vram_35 : decode cX7_vram 35 = .ok (.iload_n 1, 1) := by decide +kernel
theorem dX7_vram_36 : decode cX7_vram 36 = .ok (.baload, 1) := by decide +kernel
theorem dX7_vram_37 : decode cX7_vram 37 = .ok (.sipush 255, 3) := by decide +kernel
theorem dX7_vram_40 : decode cX7_vram 40 = .ok (.iand, 1) := by decide +kernel
theorem dX7_vram_41 : decode cX7_vram 41 = .ok (.ireturn, 1) := by decide +kernel
theorem dX7_grom_0 : decode cX7_grom 0 = .ok (.aload_n 0, 1) := by decide +kernel
theorem dX7_grom_1 : decode cX7_grom 1 = .ok (.iconst 0, 1) := by decide +kernel
theorem dX7_grom_2 : decode cX7_grom 2 = .ok (.putfield 44, 3) := by decide +kernel
theorem dX7_grom_5 : decode cX7_grom 5 = .ok (.iload_n 1, 1) := by decide +kernel
theorem dX7_grom_6 : decode cX7_grom 6 = .ok (.ifCond .ne 10, 3) := by decide +kernel
theorem dX7_grom_9 : decode cX7_grom 9 = .ok (.aload_n 0, 1) := by decide +kernel
theorem dX7_grom_10 : decode cX7_grom 10 = .ok (.getfield 86, 3) := by decide +kernel
theorem dX7_grom_13 : decode cX7_grom 13 = .ok (.goto 36, 3) := by decide +kernel
theorem dX7_grom_16 : decode cX7_grom 16 = .ok (.iload_n 1, 1) := by decide +kernel
theorem dX7_grom_17 : decode cX7_grom 17 = .ok (.iconst 1, 1) := by decide +kernel
theorem dX7_grom_18 : decode cX7_grom 18 = .ok (.if_icmp .ne 10, 3) := by decide +kernel
theorem dX7_grom_21 : decode cX7_grom 21 = .ok (.aload_n 0, 1) := by decide +kernel
theorem dX7_grom_22 : decode cX7_grom 22 = .ok (.getfield 89, 3) := by decide +kernel
theorem dX7_grom_25 : decode cX7_grom 25 = .ok (.goto 24, 3) := by decide +kernel
theorem dX7_grom_28 : decode cX7_grom 28 = .ok (.iload_n 1, 1) := by decide +kernel
theorem dX7_grom_29 : decode cX7_grom 29 = .ok (.iconst 2, 1) := by decide +kernel
theorem dX7_grom_30 : decode cX7_grom 30 = .ok (.if_icmp .ne 18, 3) := by decide +kernel
theorem dX7_grom_33 : decode cX7_grom 33 = .ok (.aload_n 0, 1) := by decide +kernel
theorem dX7_grom_34 : decode cX7_grom 34 = .ok (.getfield 105, 3) := by decide +kernel
theorem dX7_grom_37 : decode cX7_grom 37 = .ok (.ifCond .eq 7, 3) := by decide +kernel
theorem dX7_grom_40 : decode cX7_grom 40 = .ok (.iconst 1, 1) := by decide +kernel
theorem dX7_grom_41 : decode cX7_grom 41 = .ok (.goto 8, 3) := by decide +kernel
theorem dX7_grom_44 : decode cX7_grom 44 = .ok (.iconst 0, 1) := by decide +kernel
theorem dX7_grom_45 : decode cX7_grom 45 = .ok (.goto 4, 3) := by decide +kernel
theorem dX7_grom_48 : decode cX7_grom 48 = .ok (.iconst (-1), 1) := by decide +kernel
theorem dX7_grom_49 : decode cX7_grom 49 = .ok (.ireturn, 1) := by decide +kernel
theorem dX7_frame_0 : decode cX7_frame 0 = .ok (.aload_n 0, 1) := by decide +kernel
theorem dX7_frame_1 : decode cX7_frame 1 = .ok (.iconst 0, 1) := by decide +kernel
theorem dX7_frame_2 : decode cX7_frame 2 = .ok (.putfield 44, 3) := by decide +kernel
theorem dX7_frame_5 : decode cX7_frame 5 = .ok (.aload_n 0, 1) := by decide +kernel
theorem dX7_frame_6 : decode cX7_frame 6 = .ok (.iconst 1, 1) := by decide +kernel
theorem dX7_frame_7 : decode cX7_frame 7 = .ok (.putfield 99, 3) := by decide +kernel
theorem dX7_frame_10 : decode cX7_frame 10 = .ok (.return_, 1) := by decide +kernel
set_option maxRecDepth 20000 in
theorem ggX7_interrupt_X7_in : GoodIn wsX7_interrupt wsX7_in := goodIn_r _ [6] (by decide +kernel) (by decide +kernel)
set_option maxRecDepth 20000 in
theorem gX7_interrupt_X7_in : GoodIn wsX7_interrupt (va_wsS RX7 47 yX7_in wsX7_in) := goodIn_app (goodIn_of _ (by decide +kernel)) ggX7_interrupt_X7_in
theorem dX7_interrupt_0 : decode cX7_interrupt 0 = .ok (.aload_n 0, 1) := by decide +kernel
theorem dX7_interrupt_1 : decode cX7_interrupt 1 = .ok (.iconst 0, 1) := by decide +kernel
theorem dX7_interrupt_2 : decode cX7_interrupt 2 = .ok (.putfield 44, 3) := by decide +kernel
theorem dX7_interrupt_5 : decode cX7_interrupt 5 = .ok (.iload_n 1, 1) := by decide +kernel
theorem dX7_interrupt_6 : decode cX7_interrupt 6 = .ok (.iconst 2, 1) := by decide +kernel
theorem dX7_interrupt_7 : decode cX7_interrupt 7 = .ok (.bipush 15, 2) := by decide +kernel
theorem dX7_interrupt_9 : decode cX7_interrupt 9 = .ok (.invokestatic 47, 3) := by decide +kernel
theorem dX7_interrupt_12 : decode cX7_interrupt 12 = .ok (.ifCond .ne 5, 3) := by decide +kernel
theorem dX7_interrupt_15 : decode cX7_interrupt 15 = .ok (.iconst 0, 1) := by decide +kernel
theorem dX7_interrupt_16 : decode cX7_interrupt 16 = .ok (.ireturn, 1) := by decide +kernel
theorem dX7_interrupt_17 : decode cX7_interrupt 17 = .ok (.aload_n 0, 1) := by decide +kernel
theorem dX7_interrupt_18 : decode cX7_interrupt 18 = .ok (.getfield 38, 3) := by decide +kernel
theorem dX7_interrupt_21 : decode cX7_interrupt 21 = .ok (.iload_n 1, 1) := by decide +kernel
theorem dX7_interrupt_22 : decode cX7_interrupt 22 = .ok (.iconst 1, 1) := by decide +kernel
theorem dX7_interrupt_23 : decode cX7_interrupt 23 = .ok (.bastore, 1) := by decide +kernel
theorem dX7_interrupt_24 : decode cX7_interrupt 24 = .ok (.iconst 1, 1) := by decide +kernel
theorem dX7_interrupt_25 : decode cX7_interrupt 25 = .ok (.ireturn, 1) := by decide +kernel
set_option maxRecDepth 20000 in
theorem ggX7_key_X7_in : GoodIn wsX7_key wsX7_in := goodIn_r _ [6] (by decide +kernel) (by decide +kernel)
set_option maxRecDepth 20000 in
theorem gX7_key_X7_in : GoodIn wsX7_key (va_wsS RX7 47 yX7_in wsX7_in) := goodIn_app (goodIn_of _ (by decide +kernel)) ggX7_key_X7_in
theorem dX7_key_0 : decode cX7_key 0 = .ok (.aload_n 0, 1) := by decide +kernel
theorem dX7_key_1 : decode cX7_key 1 = .ok (.iconst 0, 1) := by decide +kernel
theorem dX7_key_2 : decode cX7_key 2 = .ok (.putfield 44, 3) := by decide +kernel
theorem dX7_key_5 : decode cX7_key 5 = .ok (.iload_n 1, 1) := by decide +kernel
theorem dX7_key_6 : decode cX7_key 6 = .ok (.iconst 0, 1) := by decide +kernel
theorem dX7_key_7 : decode cX7_key 7 = .ok (.bipush 7, 2) := by decide +kernel
theorem dX7_key_9 : decode cX7_key 9 = .ok (.invokestatic 47, 3) := by decide +kernel
theorem dX7_key_12 : decode cX7_key 12 = .ok (.ifCond .eq 13, 3) := by decide +kernel
theorem dX7_key_15 : decode cX7_key 15 = .ok (.iload_n 2, 1) := by decide +kernel
theorem dX7_key_16 : decode cX7_key 16 = .ok (.iconst 0, 1) := by decide +kernel
theorem dX7_key_17 : decode cX7_key 17 = .ok (.bipush 7, 2) := by decide +kernel
theorem dX7_key_19 : decode cX7_key 19 = .ok (.invokestatic 47, 3) := by decide +kernel
theorem dX7_key_22 : decode cX7_key 22 = .ok (.ifCond .ne 5, 3) := by decide +kernel
theorem dX7_key_25 : decode cX7_key 25 = .ok (.iconst 0, 1) := by decide +kernel
theorem dX7_key_26 : decode cX7_key 26 = .ok (.ireturn, 1) := by decide +kernel
theorem dX7_key_27 : decode cX7_key 27 = .ok (.aload_n 0, 1) := by decide +kernel
theorem dX7_key_28 : decode cX7_key 28 = .ok (.getfield 31, 3) := by decide +kernel
theorem dX7_key_31 : decode cX7_key 31 = .ok (.bipush 8, 2) := by decide +kernel
theorem dX7_key_33 : decode cX7_key 33 = .ok (.iload_n 1, 1) := by decide +kernel
theorem dX7_key_34 : decode cX7_key 34 = .ok (.imul, 1) := by decide +kernel
theorem dX7_key_35 : decode cX7_key 35 = .ok (.iload_n 2, 1) := by decide +kernel
theorem dX7_key_36 : decode cX7_key 36 = .ok (.iadd, 1) := by decide +kernel
theorem dX7_key_37 : decode cX7_key 37 = .ok (.iload_n 3, 1) := by decide +kernel
theorem dX7_key_38 : decode cX7_key 38 = .ok (.bastore, 1) := by decide +kernel
theorem dX7_key_39 : decode cX7_key 39 = .ok (.iconst 1, 1) := by decide +kernel
theorem dX7_key_40 : decode cX7_key 40 = .ok (.ireturn, 1) := by decide +kernel
set_option maxRecDepth 20000 in
theorem ggX7_out_X7_in : GoodIn wsX7_out wsX7_in := goodIn_r _ [6] (by decide +kernel) (by decide +kernel)
set_option maxRecDepth 20000 in
theorem gX7_out_X7_in : GoodIn wsX7_out (va_wsS RX7 47 yX7_in wsX7_in) := goodIn_app (goodIn_of _ (by decide +kernel)) ggX7_out_X7_in
theorem dX7_out_0 : decode cX7_out 0 = .ok (.aload_n 0, 1) := by decide +kernel
theorem dX7_out_1 : decode cX7_out 1 = .ok (.iconst 0, 1) := by decide +kernel
theorem dX7_out_2 : decode cX7_out 2 = .ok (.putfield 44, 3) := by decide +kernel
theorem dX7_out_5 : decode cX7_out 5 = .ok (.iload_n 1, 1) := by decide +kernel
theorem dX7_out_6 : decode cX7_out 6 = .ok (.iconst 0, 1) := by decide +kernel
theorem dX7_out_7 : decode cX7_out 7 = .ok (.sipush 4095, 3) := by decide +kernel
theorem dX7_out_10 : decode cX7_out 10 = .ok (.invokestatic 47, 3) := by decide +kernel
theorem dX7_out_13 : decode cX7_out 13 = .ok (.ifCond .eq 20, 3) := by decide +kernel
theorem dX7_out_16 : decode cX7_out 16 = .ok (.aload_n 0, 1) := by decide +kernel
theorem dX7_out_17 : decode cX7_out 17 = .ok (.getfield 27, 3) := by decide +kernel
theorem dX7_out_20 : decode cX7_out 20 = .ok (.iload_n 1, 1) := by decide +kernel
theorem dX7_out_21 : decode cX7_out 21 = .ok (.baload, 1) := by decide +kernel
theorem dX7_out_22 : decode cX7_out 22 = .ok (.ifCond .eq 7, 3) := by decide +kernel
theorem dX7_out_25 : decode cX7_out 25 = .ok (.iconst 1, 1) := by decide +kernel
theorem dX7_out_26 : decode cX7_out 26 = .ok (.goto 8, 3) := by decide +kernel
theorem dX7_out_29 : decode cX7_out 29 = .ok (.iconst 0, 1) := by decide +kernel
theorem dX7_out_30 : decode cX7_out 30 = .ok (.goto 4, 3) := by decide +kernel
theorem dX7_out_33 : decode cX7_out 33 = .ok (.iconst (-1), 1) := by decide +kernel
theorem dX7_out_34 : decode cX7_out 34 = .ok (.ireturn, 1) := by decide +kernel
set_option maxRecDepth 20000 in
theorem ggX7_in__X7_in : GoodIn wsX7_in_ wsX7_in := goodIn_r _ [5] (by decide +kernel) (by decide +kernel)
set_option maxRecDepth 20000 in
theorem gX7_in__X7_in : GoodIn wsX7_in_ (va_wsS RX7 47 yX7_in wsX7_in) := goodIn_app (goodIn_of _ (by decide +kernel)) ggX7_in__X7_in
set_option maxRecDepth 20000 in
theorem ggX7_in__X7_inOf : GoodIn wsX7_in_ wsX7_inOf := goodIn_r _ [9, 10, 11, 12, 2, 3, 4, 5, 13, 14, 15, 16, 17, 18, 19, 20, 21, 22, 23, 24, 25, 26, 27, 28, 29, 30, 31, 32, 33, 34, 35, 36, 37, 38] (by decide +kernel) (by decide +kernel)
set_option maxRecDepth 20000 in
theorem gX7_in__X7_inOf : GoodIn wsX7_in_ (wsV RX7 193 RX7 yX7_inOf wsX7_inOf) := goodIn_app (goodIn_of _ (by decide +kernel)) ggX7_in__X7_inOf
theorem dX7_in__0 : decode cX7_in_ 0 = .ok (.aload_n 0, 1) := by decide +kernel
theorem dX7_in__1 : decode cX7_in_ 1 = .ok (.iconst 0, 1) := by decide +kernel
theorem dX7_in__2 : decode cX7_in_ 2 = .ok (.putfield 44, 3) := by decide +kernel
theorem dX7_in__5 : decode cX7_in_ 5 = .ok (.iload_n 1, 1) := by decide +kernel
theorem dX7_in__6 : decode cX7_in_ 6 = .ok (.iconst 0, 1) := by decide +kernel
theorem dX7_in__7 : decode cX7_in_ 7 = .ok (.sipush 4095, 3) := by decide +kernel
theorem dX7_in__10 : decode cX7_in_ 10 = .ok (.invokestatic 47, 3) := by decide +kernel
theorem dX7_in__13 : decode cX7_in_ 13 = .ok (.ifCond .eq 11, 3) := by decide +kernel
theorem dX7_in__16 : decode cX7_in_ 16 = .ok (.aload_n 0, 1) := by decide +kernel
theorem dX7_in__17 : decode cX7_in_ 17 = .ok (.iload_n 1, 1) := by decide +kernel
theorem dX7_in__18 : decode cX7_in_ 18 = .ok (.invokevirtual 193, 3) := by decide +kernel
theorem dX7_in__21 : decode cX7_in_ 21 = .ok (.goto 4, 3) := by decide +kernel
theorem dX7_in__24 : decode cX7_in_ 24 = .ok (.iconst (-1), 1) := by decide +kernel
theorem dX7_in__25 : decode cX7_in_ 25 = .ok (.ireturn, 1) := by decide +kernel
set_option maxRecDepth 20000 in
theorem ggX7_pixel_X7_in : GoodIn wsX7_pixel wsX7_in := goodIn_r _ [7] (by decide +kernel) (by decide +kernel)
set_option maxRecDepth 20000 in
theorem gX7_pixel_X7_in : GoodIn wsX7_pixel (va_wsS RX7 47 yX7_in wsX7_in) := goodIn_app (goodIn_of _ (by decide +kernel)) ggX7_pixel_X7_in
theorem dX7_pixel_0 : decode cX7_pixel 0 = .ok (.aload_n 0, 1) := by decide +kernel
theorem dX7_pixel_1 : decode cX7_pixel 1 = .ok (.iconst 0, 1) := by decide +kernel
theorem dX7_pixel_2 : decode cX7_pixel 2 = .ok (.putfield 44, 3) := by decide +kernel
theorem dX7_pixel_5 : decode cX7_pixel 5 = .ok (.iload_n 1, 1) := by decide +kernel
theorem dX7_pixel_6 : decode cX7_pixel 6 = .ok (.iconst 0, 1) := by decide +kernel
theorem dX7_pixel_7 : decode cX7_pixel 7 = .ok (.sipush 255, 3) := by decide +kernel
theorem dX7_pixel_10 : decode cX7_pixel 10 = .ok (.invokestatic 47, 3) := by decide +kernel
theorem dX7_pixel_13 : decode cX7_pixel 13 = .ok (.ifCond .eq 14, 3) := by decide +kernel
theorem dX7_pixel_16 : decode cX7_pixel 16 = .ok (.iload_n 2, 1) := by decide +kernel
theorem dX7_pixel_17 : decode cX7_pixel 17 = .ok (.iconst 0, 1) := by decide +kernel
theorem dX7_pixel_18 : decode cX7_pixel 18 = .ok (.sipush 191, 3) := by decide +kernel
theorem dX7_pixel_21 : decode cX7_pixel 21 = .ok (.invokestatic 47, 3) := by decide +kernel
theorem dX7_pixel_24 : decode cX7_pixel 24 = .ok (.ifCond .ne 5, 3) := by decide +kernel
theorem dX7_pixel_27 : decode cX7_pixel 27 = .ok (.iconst (-1), 1) := by decide +kernel
theorem dX7_pixel_28 : decode cX7_pixel 28 = .ok (.ireturn, 1) := by decide +kernel
theorem dX7_pixel_29 : decode cX7_pixel 29 = .ok (.aload_n 0, 1) := by decide +kernel
theorem dX7_pixel_30 : decode cX7_pixel 30 = .ok (.getfield 23, 3) := by decide +kernel
theorem dX7_pixel_33 : decode cX7_pixel 33 = .ok (.bipush 7, 2) := by decide +kernel
theorem dX7_pixel_35 : decode cX7_pixel 35 = .ok (.iaload, 1) := by decide +kernel
theorem dX7_pixel_36 : decode cX7_pixel 36 = .ok (.bipush 15, 2) := by decide +kernel
theorem dX7_pixel_38 : decode cX7_pixel 38 = .ok (.iand, 1) := by decide +kernel
theorem dX7_pixel_39 : decode cX7_pixel 39 = .ok (.istore_n 3, 1) := by decide +kernel
theorem dX7_pixel_40 : decode cX7_pixel 40 = .ok (.aload_n 0, 1) := by decide +kernel
theorem dX7_pixel_41 : decode cX7_pixel 41 = .ok (.getfield 23, 3) := by decide +kernel
theorem dX7_pixel_44 : decode cX7_pixel 44 = .ok (.iconst 1, 1) := by decide +kernel
theorem dX7_pixel_45 : decode cX7_pixel 45 = .ok (.iaload, 1) := by decide +kernel
theorem dX7_pixel_46 : decode cX7_pixel 46 = .ok (.bipush 64, 2) := by decide +kernel
theorem dX7_pixel_48 : decode cX7_pixel 48 = .ok (.iand, 1) := by decide +kernel
theorem dX7_pixel_49 : decode cX7_pixel 49 = .ok (.ifCond .ne 5, 3) := by decide +kernel
theorem dX7_pixel_52 : decode cX7_pixel 52 = .ok (.iload_n 3, 1) := by decide +kernel
theorem dX7_pixel_53 : decode cX7_pixel 53 = .ok (.ireturn, 1) := by decide +kernel
theorem dX7_pixel_54 : decode cX7_pixel 54 = .ok (.aload_n 0, 1) := by decide +kernel
theorem dX7_pixel_55 : decode cX7_pixel 55 = .ok (.getfield 17, 3) := by decide +kernel
theorem dX7_pixel_58 : decode cX7_pixel 58 = .ok (.aload_n 0, 1) := by decide +kernel
theorem dX7_pixel_59 : decode cX7_pixel 59 = .ok (.getfield 23, 3) := by decide +kernel
theorem dX7_pixel_62 : decode cX7_pixel 62 = .ok (.iconst 2, 1) := by decide +kernel
theorem dX7_pixel_63 : decode cX7_pixel 63 = .ok (.iaload, 1) := by decide +kernel
theorem dX7_pixel_64 : decode cX7_pixel 64 = .ok (.bipush 16, 2) := by decide +kernel
theorem dX7_pixel_66 : decode cX7_pixel 66 = .ok (.irem, 1) := by decide +kernel
theorem dX7_pixel_67 : decode cX7_pixel 67 = .ok (.sipush 1024, 3) := by decide +kernel
theorem dX7_pixel_70 : decode cX7_pixel 70 = .ok (.imul, 1) := by decide +kernel
theorem dX7_pixel_71 : decode cX7_pixel 71 = .ok (.bipush 32, 2) := by decide +kernel
theorem dX7_pixel_73 : decode cX7_pixel 73 = .ok (.iload_n 2, 1) := by decide +kernel
theorem dX7_pixel_74 : decode cX7_pixel 74 = .ok (.bipush 8, 2) := by decide +kernel
theorem dX7_pixel_76 : decode cX7_pixel 76 = .ok (.idiv, 1) := by decide +kernel
theorem dX7_pixel_77 : decode cX7_pixel 77 = .ok (.imul, 1) := by decide +kernel
theorem dX7_pixel_78 : decode cX7_pixel 78 = .ok (.iadd, 1) := by decide +kernel
theorem dX7_pixel_79 : decode cX7_pixel 79 = .ok (.iload_n 1, 1) := by decide +kernel
theorem dX7_pixel_80 : decode cX7_pixel 80 = .ok (.bipush 8, 2) := by decide +kernel
theorem dX7_pixel_82 : decode cX7_pixel 82 = .ok (.idiv, 1) := by decide +kernel
theorem dX7_pixel_83 : decode cX7_pixel 83 = .ok (.iadd, 1) := by decide +kernel
theorem dX7_pixel_84 : decode cX7_pixel 84 = .ok (.baload, 1) := by decide +kernel
theorem dX7_pixel_85 : decode cX7_pixel 85 = .ok (.sipush 255, 3) := by decide +kernel
theorem dX7_pixel_88 : decode cX7_pixel 88 = .ok (.iand, 1) := by decide +kernel
theorem dX7_pixel_89 : decode cX7_pixel 89 = .ok (.istore 4, 2) := by decide +kernel
theorem dX7_pixel_91 : decode cX7_pixel 91 = .ok (.aload_n 0, 1) := by decide +kernel
theorem dX7_pixel_92 : decode cX7_pixel 92 = .ok (.getfield 17, 3) := by decide +kernel
theorem dX7_pixel_95 : decode cX7_pixel 95 = .ok (.aload_n 0, 1) := by decide +kernel
theorem dX7_pixel_96 : decode cX7_pixel 96 = .ok (.getfield 23, 3) := by decide +kernel
theorem dX7_pixel_99 : decode cX7_pixel 99 = .ok (.iconst 4, 1) := by decide +kernel
theorem dX7_pixel_100 : decode cX7_pixel 100 = .ok (.iaload, 1) := by decide +kernel
theorem dX7_pixel_101 : decode cX7_pixel 101 = .ok (.bipush 8, 2) := by decide +kernel
theorem dX7_pixel_103 : decode cX7_pixel 103 = .ok (.irem, 1) := by decide +kernel
theorem dX7_pixel_104 : decode cX7_pixel 104 = .ok (.sipush 2048, 3) := by decide +kernel
theorem dX7_pixel_107 : decode cX7_pixel 107 = .ok (.imul, 1) := by decide +kernel
theorem dX7_pixel_108 : decode cX7_pixel 108 = .ok (.bipush 8, 2) := by decide +kernel
theorem dX7_pixel_110 : decode cX7_pixel 110 = .ok (.iload 4, 2) := by decide +kernel
theorem dX7_pixel_112 : decode cX7_pixel 112 = .ok (.imul, 1) := by decide +kernel
theorem dX7_pixel_113 : decode cX7_pixel 113 = .ok (.iadd, 1) := by decide +kernel
theorem dX7_pixel_114 : decode cX7_pixel 114 = .ok (.iload_n 2, 1) := by decide +kernel
theorem dX7_pixel_115 : decode cX7_pixel 115 = .ok (.bipush 8, 2) := by decide +kernel
theorem dX7_pixel_117 : decode cX7_pixel 117 = .ok (.irem, 1) := by decide +kernel
theorem dX7_pixel_118 : decode cX7_pixel 118 = .ok (.iadd, 1) := by decide +kernel
theorem dX7_pixel_119 : decode cX7_pixel 119 = .ok (.baload, 1) := by decide +kernel
theorem dX7_pixel_120 : decode cX7_pixel 120 = .ok (.sipush 255, 3) := by decide +kernel
theorem dX7_pixel_123 : decode cX7_pixel 123 = .ok (.iand, 1) := by decide +kernel
theorem dX7_pixel_124 : decode cX7_pixel 124 = .ok (.istore 5, 2) := by decide +kernel
theorem dX7_pixel_126 : decode cX7_pixel 126 = .ok (.aload_n 0, 1) := by decide +kernel
theorem dX7_pixel_127 : decode cX7_pixel 127 = .ok (.getfield 17, 3) := by decide +kernel
theorem dX7_pixel_130 : decode cX7_pixel 130 = .ok (.aload_n 0, 1) := by decide +kernel
theorem dX7_pixel_131 : decode cX7_pixel 131 = .ok (.getfield 23, 3) := by decide +kernel
theorem dX7_pixel_134 : decode cX7_pixel 134 = .ok (.iconst 3, 1) := by decide +kernel
theorem dX7_pixel_135 : decode cX7_pixel 135 = .ok (.iaload, 1) := by decide +kernel
theorem dX7_pixel_136 : decode cX7_pixel 136 = .ok (.bipush 64, 2) := by decide +kernel
theorem dX7_pixel_138 : decode cX7_pixel 138 = .ok (.imul, 1) := by decide +kernel
theorem dX7_pixel_139 : decode cX7_pixel 139 = .ok (.iload 4, 2) := by decide +kernel
theorem dX7_pixel_141 : decode cX7_pixel 141 = .ok (.bipush 8, 2) := by decide +kernel
theorem dX7_pixel_143 : decode cX7_pixel 143 = .ok (.idiv, 1) := by decide +kernel
theorem dX7_pixel_144 : decode cX7_pixel 144 = .ok (.iadd, 1) := by decide +kernel
theorem dX7_pixel_145 : decode cX7_pixel 145 = .ok (.sipush 16384, 3) := by decide +kernel
theorem dX7_pixel_148 : decode cX7_pixel 148 = .ok (.irem, 1) := by decide +kernel
theorem dX7_pixel_149 : decode cX7_pixel 149 = .ok (.baload, 1) := by decide +kernel
theorem dX7_pixel_150 : decode cX7_pixel 150 = .ok (.sipush 255, 3) := by decide +kernel
theorem dX7_pixel_153 : decode cX7_pixel 153 = .ok (.iand, 1) := by decide +kernel
theorem dX7_pixel_154 : decode cX7_pixel 154 = .ok (.istore 6, 2) := by decide +kernel
theorem dX7_pixel_156 : decode cX7_pixel 156 = .ok (.iload 5, 2) := by decide +kernel
theorem dX7_pixel_158 : decode cX7_pixel 158 = .ok (.bipush 7, 2) := by decide +kernel
theorem dX7_pixel_160 : decode cX7_pixel 160 = .ok (.iload_n 1, 1) := by decide +kernel
theorem dX7_pixel_161 : decode cX7_pixel 161 = .ok (.bipush 8, 2) := by decide +kernel
theorem dX7_pixel_163 : decode cX7_pixel 163 = .ok (.irem, 1) := by decide +kernel
theorem dX7_pixel_164 : decode cX7_pixel 164 = .ok (.isub, 1) := by decide +kernel
theorem dX7_pixel_165 : decode cX7_pixel 165 = .ok (.ishr, 1) := by decide +kernel
theorem dX7_pixel_166 : decode cX7_pixel 166 = .ok (.iconst 1, 1) := by decide +kernel
theorem dX7_pixel_167 : decode cX7_pixel 167 = .ok (.iand, 1) := by decide +kernel
theorem dX7_pixel_168 : decode cX7_pixel 168 = .ok (.iconst 1, 1) := by decide +kernel
theorem dX7_pixel_169 : decode cX7_pixel 169 = .ok (.if_icmp .ne 11, 3) := by decide +kernel
theorem dX7_pixel_172 : decode cX7_pixel 172 = .ok (.iload 6, 2) := by decide +kernel
theorem dX7_pixel_174 : decode cX7_pixel 174 = .ok (.bipush 16, 2) := by decide +kernel
theorem dX7_pixel_176 : decode cX7_pixel 176 = .ok (.idiv, 1) := by decide +kernel
theorem dX7_pixel_177 : decode cX7_pixel 177 = .ok (.goto 8, 3) := by decide +kernel
theorem dX7_pixel_180 : decode cX7_pixel 180 = .ok (.iload 6, 2) := by decide +kernel
theorem dX7_pixel_182 : decode cX7_pixel 182 = .ok (.bipush 16, 2) := by decide +kernel
theorem dX7_pixel_184 : decode cX7_pixel 184 = .ok (.irem, 1) := by decide +kernel
theorem dX7_pixel_185 : decode cX7_pixel 185 = .ok (.istore 7, 2) := by decide +kernel
theorem dX7_pixel_187 : decode cX7_pixel 187 = .ok (.iload 7, 2) := by decide +kernel
theorem dX7_pixel_189 : decode cX7_pixel 189 = .ok (.ifCond .ne 7, 3) := by decide +kernel
theorem dX7_pixel_192 : decode cX7_pixel 192 = .ok (.iload_n 3, 1) := by decide +kernel
theorem dX7_pixel_193 : decode cX7_pixel 193 = .ok (.goto 5, 3) := by decide +kernel
theorem dX7_pixel_196 : decode cX7_pixel 196 = .ok (.iload 7, 2) := by decide +kernel
theorem dX7_pixel_198 : decode cX7_pixel 198 = .ok (.ireturn, 1) := by decide +kernel
abbrev vwCl : List vw_C := [(RX0, TX0, 1), (RX1, TX1, 4), (RX2, TX2, 5), (RX3, TX3, 6), (RX4, TX4, 12), (RX5, TX5, 3), (RX6, TX6, 7), (RX7, TX7, 26)]
